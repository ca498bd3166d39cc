set_option maxHeartbeats 4000000 in
set_option maxRecDepth 100000 in
theorem c_X2_forget {l : Launch} {Γ : zΓ} {G : zH} {w : Nat} (hX : zXs Γ)  : zMet l Γ yX2_forget cX2_forget 1 none 1 [zr 3 w] G (zpv (fun G' => zsm [2020] G G' ∧ True)) := by
  refine zMet_of RX2 hX (by decide) rfl (Nat.le_of_ble_eq_true rfl) ?_
  intro p e s m args below meth c C hr hlk
  show Z p l e (zrm 1) s m args below meth c Γ 1 0 0 (MQ below (zQc Γ (zpv (fun G' => zsm [2020] G G' ∧ True))) args s 0 0 (zA Γ)) 0 [some (zr 3 w)] [] G
  refine zs_aload_n (pc := 0) C dX2_forget_0 rfl ?_
  refine zs_getf (pc := 1) C dX2_forget_1 w_X2_9 f_3_1 (by decide) ?_
  refine zs_iconst (pc := 4) C dX2_forget_4 (by decide) ?_
  refine zSv2 (pc := 5) C dX2_forget_5 s_X2_31 (c_J7_fill_53178 hX a_20 (by decide) (by decide) (fun i => by rw [r_2020]; decide)) (by decide) ⟨Nat.zero_le _, Nat.zero_le _⟩ (Nat.le_of_ble_eq_true rfl) (fun G5 hp5 => ?_)
  obtain ⟨hz5, hq5⟩ := hp5
  exact zs_vret (pc := 8) C hr hlk dX2_forget_8 ⟨by repeat (first | exact zsm_rf | assumption | refine zsm_C (by decide) ?_ | refine zsm_I (by decide) ?_ | refine zsm_J ?_ | refine zsm_c (by assumption) (by decide) ?_), trivial⟩

set_option maxHeartbeats 4000000 in
set_option maxRecDepth 100000 in
theorem c_X2_isThere {l : Launch} {Γ : zΓ} {G : zH} {w : Nat} {k : Int} (hX : zXs Γ) (hc : 0 ≤ k ∧ k ≤ 4) : zMet l Γ yX2_isThere cX2_isThere 2 (some .boolean) 0 [zr 3 w, zi k] G (zpi (fun x G' => G' = G ∧ (x = 0 ∨ x = 1))) := by
  refine zMet_of RX2 hX (by decide) rfl (Nat.le_of_ble_eq_true rfl) ?_
  intro p e s m args below meth c C hr hlk
  show Z p l e (zrm 0) s m args below meth c Γ 2 0 0 (MQ below (zQc Γ (zpi (fun x G' => G' = G ∧ (x = 0 ∨ x = 1)))) args s 0 0 (zA Γ)) 0 [some (zr 3 w), some (zi k)] [] G
  refine zs_loc 1 rfl (fun ha1 hb1 => ?_)
  refine zs_aload_n (pc := 0) C dX2_isThere_0 rfl ?_
  refine zs_getf (pc := 1) C dX2_isThere_1 w_X2_15 f_3_2 (by decide) ?_
  refine zs_iload_n (pc := 4) C dX2_isThere_4 rfl ?_
  refine zs_iald (r := 2021) (pc := 5) C dX2_isThere_5 a_21 (by decide) (by omega) rfl (r_2021 _) (fun v5 e5 l5 u5 => ?_)
  refine zs_iconst (pc := 6) C dX2_isThere_6 (by decide) ?_
  refine zs_icmp_ge (tgt := 14) (pc := 7) C dX2_isThere_7 (by decide) (fun h7 => ?_) (fun h7 => ?_)
  · skip
    refine zs_iconst (pc := 14) C dX2_isThere_14 (by decide) ?_
    exact zs_zret (pc := 15) C hr hlk dX2_isThere_15 (by omega) ⟨rfl, by first | omega | (simp only [zuI_1, zuI_2, zuJ_1, zuJ_2, zuJ_3, zuP_1, zuP_2, zuP_3, zuC_1, zuC_2, reduceIte, Nat.reduceEqDiff, false_and, and_false, true_and, and_true, and_self, or_true, true_or, or_false, false_or]; omega)⟩
  · skip
    refine zs_iconst (pc := 10) C dX2_isThere_10 (by decide) ?_
    refine zs_goto (tgt := 15) (pc := 11) C dX2_isThere_11 (by decide) ?_
    exact zs_zret (pc := 15) C hr hlk dX2_isThere_15 (by omega) ⟨rfl, by first | omega | (simp only [zuI_1, zuI_2, zuJ_1, zuJ_2, zuJ_3, zuP_1, zuP_2, zuP_3, zuC_1, zuC_2, reduceIte, Nat.reduceEqDiff, false_and, and_false, true_and, and_true, and_self, or_true, true_or, or_false, false_or]; omega)⟩

set_option maxHeartbeats 4000000 in
set_option maxRecDepth 100000 in
theorem c_X2_stepOf {l : Launch} {Γ : zΓ} {G : zH} {w : Nat} {k i0 : Int} (hX : zXs Γ) (hc : 0 ≤ k ∧ k ≤ 4) : zMet l Γ yX2_stepOf cX2_stepOf 3 (some .int) 0 [zr 3 w, zi k, zi i0] G (zpi (fun x G' => G' = G ∧ True)) := by
  refine zMet_of RX2 hX (by decide) rfl (Nat.le_of_ble_eq_true rfl) ?_
  intro p e s m args below meth c C hr hlk
  show Z p l e (zrm 0) s m args below meth c Γ 3 0 0 (MQ below (zQc Γ (zpi (fun x G' => G' = G ∧ True))) args s 0 0 (zA Γ)) 0 [some (zr 3 w), some (zi k), some (zi i0)] [] G
  refine zs_loc 1 rfl (fun ha1 hb1 => ?_)
  refine zs_loc 2 rfl (fun ha2 hb2 => ?_)
  refine zs_iload_n (pc := 0) C dX2_stepOf_0 rfl ?_
  refine zs_if_lt (tgt := 22) (pc := 1) C dX2_stepOf_1 (by decide) (fun h1 => ?_) (fun h1 => ?_)
  · skip
    refine zs_iconst (pc := 22) C dX2_stepOf_22 (by decide) ?_
    exact zs_iret (pc := 23) C hr hlk dX2_stepOf_23 ⟨rfl, trivial⟩
  · skip
    refine zs_iload_n (pc := 4) C dX2_stepOf_4 rfl ?_
    refine zs_iconst (pc := 5) C dX2_stepOf_5 (by decide) ?_
    refine zs_icmp_ge (tgt := 22) (pc := 6) C dX2_stepOf_6 (by decide) (fun h6 => ?_) (fun h6 => ?_)
    · skip
      refine zs_iconst (pc := 22) C dX2_stepOf_22 (by decide) ?_
      exact zs_iret (pc := 23) C hr hlk dX2_stepOf_23 ⟨rfl, trivial⟩
    · skip
      refine zs_aload_n (pc := 9) C dX2_stepOf_9 rfl ?_
      refine zs_getf (pc := 10) C dX2_stepOf_10 w_X2_21 f_3_4 (by decide) ?_
      refine zs_iload_n (pc := 13) C dX2_stepOf_13 rfl ?_
      refine zs_iconst (pc := 14) C dX2_stepOf_14 (by decide) ?_
      first | refine zs_imul (pc := 15) C dX2_stepOf_15 (by omega) ?_ | refine zs_imulF (pc := 15) C dX2_stepOf_15 (fun z15 hz151 hz152 => ?_)
      refine zs_iload_n (pc := 16) C dX2_stepOf_16 rfl ?_
      first | refine zs_iadd (pc := 17) C dX2_stepOf_17 (by omega) ?_ | refine zs_iaddF (pc := 17) C dX2_stepOf_17 (fun z17 hz171 hz172 => ?_)
      refine zs_iald (r := 2023) (pc := 18) C dX2_stepOf_18 a_23 (by decide) (by omega) rfl (r_2023 _) (fun v18 e18 l18 u18 => ?_)
      refine zs_goto (tgt := 23) (pc := 19) C dX2_stepOf_19 (by decide) ?_
      exact zs_iret (pc := 23) C hr hlk dX2_stepOf_23 ⟨rfl, trivial⟩

set_option maxHeartbeats 4000000 in
set_option maxRecDepth 100000 in
theorem c_X2_isBetter {l : Launch} {Γ : zΓ} {G : zH} {w : Nat} {a b : Int} (hX : zXs Γ)  : zMet l Γ yX2_isBetter cX2_isBetter 3 (some .boolean) 0 [zr 3 w, zi a, zi b] G (zpi (fun x G' => G' = G ∧ (x = 0 ∨ x = 1))) := by
  refine zMet_of RX2 hX (by decide) rfl (Nat.le_of_ble_eq_true rfl) ?_
  intro p e s m args below meth c C hr hlk
  show Z p l e (zrm 0) s m args below meth c Γ 3 0 0 (MQ below (zQc Γ (zpi (fun x G' => G' = G ∧ (x = 0 ∨ x = 1)))) args s 0 0 (zA Γ)) 0 [some (zr 3 w), some (zi a), some (zi b)] [] G
  refine zs_loc 1 rfl (fun ha1 hb1 => ?_)
  refine zs_loc 2 rfl (fun ha2 hb2 => ?_)
  refine zs_iload_n (pc := 0) C dX2_isBetter_0 rfl ?_
  refine zs_aload_n (pc := 1) C dX2_isBetter_1 rfl ?_
  refine zs_getf (pc := 2) C dX2_isBetter_2 w_X2_15 f_3_2 (by decide) ?_
  refine zs_aload_n (pc := 5) C dX2_isBetter_5 rfl ?_
  refine zs_geti (r := 306) (pc := 6) C dX2_isBetter_6 w_X2_37 f_3_6 rfl (r_306 0) (fun v6 e6 l6 u6 => ?_)
  refine zs_iald (r := 2021) (pc := 9) C dX2_isBetter_9 a_21 (by decide) (by omega) rfl (r_2021 _) (fun v9 e9 l9 u9 => ?_)
  refine zs_icmp_lt (tgt := 39) (pc := 10) C dX2_isBetter_10 (by decide) (fun h10 => ?_) (fun h10 => ?_)
  · skip
    refine zs_iconst (pc := 39) C dX2_isBetter_39 (by decide) ?_
    refine zs_goto (tgt := 44) (pc := 40) C dX2_isBetter_40 (by decide) ?_
    exact zs_zret (pc := 44) C hr hlk dX2_isBetter_44 (by omega) ⟨rfl, by first | omega | (simp only [zuI_1, zuI_2, zuJ_1, zuJ_2, zuJ_3, zuP_1, zuP_2, zuP_3, zuC_1, zuC_2, reduceIte, Nat.reduceEqDiff, false_and, and_false, true_and, and_true, and_self, or_true, true_or, or_false, false_or]; omega)⟩
  · skip
    refine zs_iload_n (pc := 13) C dX2_isBetter_13 rfl ?_
    refine zs_aload_n (pc := 14) C dX2_isBetter_14 rfl ?_
    refine zs_getf (pc := 15) C dX2_isBetter_15 w_X2_15 f_3_2 (by decide) ?_
    refine zs_aload_n (pc := 18) C dX2_isBetter_18 rfl ?_
    refine zs_geti (r := 306) (pc := 19) C dX2_isBetter_19 w_X2_37 f_3_6 rfl (r_306 0) (fun v19 e19 l19 u19 => ?_)
    refine zs_iald (r := 2021) (pc := 22) C dX2_isBetter_22 a_21 (by decide) (by omega) rfl (r_2021 _) (fun v22 e22 l22 u22 => ?_)
    refine zs_icmp_ne (tgt := 43) (pc := 23) C dX2_isBetter_23 (by decide) (fun h23 => ?_) (fun h23 => ?_)
    · skip
      refine zs_iconst (pc := 43) C dX2_isBetter_43 (by decide) ?_
      exact zs_zret (pc := 44) C hr hlk dX2_isBetter_44 (by omega) ⟨rfl, by first | omega | (simp only [zuI_1, zuI_2, zuJ_1, zuJ_2, zuJ_3, zuP_1, zuP_2, zuP_3, zuC_1, zuC_2, reduceIte, Nat.reduceEqDiff, false_and, and_false, true_and, and_true, and_self, or_true, true_or, or_false, false_or]; omega)⟩
    · skip
      refine zs_iload_n (pc := 26) C dX2_isBetter_26 rfl ?_
      refine zs_aload_n (pc := 27) C dX2_isBetter_27 rfl ?_
      refine zs_getf (pc := 28) C dX2_isBetter_28 w_X2_18 f_3_3 (by decide) ?_
      refine zs_aload_n (pc := 31) C dX2_isBetter_31 rfl ?_
      refine zs_geti (r := 306) (pc := 32) C dX2_isBetter_32 w_X2_37 f_3_6 rfl (r_306 0) (fun v32 e32 l32 u32 => ?_)
      refine zs_iald (r := 2022) (pc := 35) C dX2_isBetter_35 a_22 (by decide) (by omega) rfl (r_2022 _) (fun v35 e35 l35 u35 => ?_)
      refine zs_icmp_ge (tgt := 43) (pc := 36) C dX2_isBetter_36 (by decide) (fun h36 => ?_) (fun h36 => ?_)
      · skip
        refine zs_iconst (pc := 43) C dX2_isBetter_43 (by decide) ?_
        exact zs_zret (pc := 44) C hr hlk dX2_isBetter_44 (by omega) ⟨rfl, by first | omega | (simp only [zuI_1, zuI_2, zuJ_1, zuJ_2, zuJ_3, zuP_1, zuP_2, zuP_3, zuC_1, zuC_2, reduceIte, Nat.reduceEqDiff, false_and, and_false, true_and, and_true, and_self, or_true, true_or, or_false, false_or]; omega)⟩
      · skip
        refine zs_iconst (pc := 39) C dX2_isBetter_39 (by decide) ?_
        refine zs_goto (tgt := 44) (pc := 40) C dX2_isBetter_40 (by decide) ?_
        exact zs_zret (pc := 44) C hr hlk dX2_isBetter_44 (by omega) ⟨rfl, by first | omega | (simp only [zuI_1, zuI_2, zuJ_1, zuJ_2, zuJ_3, zuP_1, zuP_2, zuP_3, zuC_1, zuC_2, reduceIte, Nat.reduceEqDiff, false_and, and_false, true_and, and_true, and_self, or_true, true_or, or_false, false_or]; omega)⟩

set_option maxHeartbeats 4000000 in
set_option maxRecDepth 100000 in
theorem c_X2_isHopeful {l : Launch} {Γ : zΓ} {G : zH} {w : Nat} {a b q : Int} (hX : zXs Γ)  : zMet l Γ yX2_isHopeful cX2_isHopeful 6 (some .boolean) 1 [zr 3 w, zi a, zi b, zi q] G (zpi (fun x G' => G' = G ∧ (x = 0 ∨ x = 1))) := by
  refine zMet_of RX2 hX (by decide) rfl (Nat.le_of_ble_eq_true rfl) ?_
  intro p e s m args below meth c C hr hlk
  show Z p l e (zrm 1) s m args below meth c Γ 6 0 0 (MQ below (zQc Γ (zpi (fun x G' => G' = G ∧ (x = 0 ∨ x = 1)))) args s 0 0 (zA Γ)) 0 [some (zr 3 w), some (zi a), some (zi b), some (zi q), none, none] [] G
  refine zs_loc 1 rfl (fun ha1 hb1 => ?_)
  refine zs_loc 2 rfl (fun ha2 hb2 => ?_)
  refine zs_loc 3 rfl (fun ha3 hb3 => ?_)
  refine zs_iconst (pc := 0) C dX2_isHopeful_0 (by decide) ?_
  refine zs_aload_n (pc := 1) C dX2_isHopeful_1 rfl ?_
  refine zs_getf (pc := 2) C dX2_isHopeful_2 w_X2_27 f_3_0 (by decide) ?_
  refine zs_getd (r := 800) (pc := 5) C dX2_isHopeful_5 w_X2_47 f_8_0 (by decide) rfl (fun v5 e5 t5 => ?_)
  subst e5
  refine zs_geti (r := 610) (pc := 8) C dX2_isHopeful_8 w_X2_128 f_6_10 rfl (r_610 0) (fun v8 e8 l8 u8 => ?_)
  refine zs_maxI (pc := 11) C dX2_isHopeful_11 s_X2_131 (by decide) (Nat.le_of_ble_eq_true rfl) ⟨Nat.zero_le _, Nat.zero_le _⟩ (fun z11 hz11 => ?_)
  refine zs_istore (pc := 14) C dX2_isHopeful_14 (by decide) ?_
  dsimp only [zset, zclr, znone]
  refine zs_iload_n (pc := 16) C dX2_isHopeful_16 rfl ?_
  refine zs_iload_n (pc := 17) C dX2_isHopeful_17 rfl ?_
  refine zs_iload (pc := 18) C dX2_isHopeful_18 rfl ?_
  first | refine zs_iadd (pc := 20) C dX2_isHopeful_20 (by omega) ?_ | refine zs_iaddF (pc := 20) C dX2_isHopeful_20 (fun z20 hz201 hz202 => ?_)
  refine zs_iconst (pc := 21) C dX2_isHopeful_21 (by decide) ?_
  first | refine zs_isub (pc := 22) C dX2_isHopeful_22 (by omega) ?_ | refine zs_isubF (pc := 22) C dX2_isHopeful_22 (fun z22 hz221 hz222 => ?_)
  refine zs_iload (pc := 23) C dX2_isHopeful_23 rfl ?_
  first | refine zs_idiv (pc := 25) C dX2_isHopeful_25 (by omega) (by omega) (fun hz251 hz252 => ?_) | refine zs_idivF (pc := 25) C dX2_isHopeful_25 (by omega) (fun z25 hz251 hz252 => ?_)
  first | refine zs_iadd (pc := 26) C dX2_isHopeful_26 (by omega) ?_ | refine zs_iaddF (pc := 26) C dX2_isHopeful_26 (fun z26 hz261 hz262 => ?_)
  refine zs_istore (pc := 27) C dX2_isHopeful_27 (by decide) ?_
  dsimp only [zset, zclr, znone]
  refine zs_iload (pc := 29) C dX2_isHopeful_29 rfl ?_
  refine zs_iconst (pc := 31) C dX2_isHopeful_31 (by decide) ?_
  refine zs_icmp_gt (tgt := 49) (pc := 32) C dX2_isHopeful_32 (by decide) (fun h32 => ?_) (fun h32 => ?_)
  · skip
    refine zs_iconst (pc := 49) C dX2_isHopeful_49 (by decide) ?_
    exact zs_zret (pc := 50) C hr hlk dX2_isHopeful_50 (by omega) ⟨rfl, by first | omega | (simp only [zuI_1, zuI_2, zuJ_1, zuJ_2, zuJ_3, zuP_1, zuP_2, zuP_3, zuC_1, zuC_2, reduceIte, Nat.reduceEqDiff, false_and, and_false, true_and, and_true, and_self, or_true, true_or, or_false, false_or]; omega)⟩
  · skip
    refine zs_aload_n (pc := 35) C dX2_isHopeful_35 rfl ?_
    refine zs_iload_n (pc := 36) C dX2_isHopeful_36 rfl ?_
    refine zs_iload (pc := 37) C dX2_isHopeful_37 rfl ?_
    refine zVip2 (pc := 39) C dX2_isHopeful_39 v_X2_98 (c_X2_isBetter hX ) (by decide) (by decide) ⟨Nat.zero_le _, Nat.zero_le _⟩ (Nat.le_of_ble_eq_true rfl) (fun x39 l39 u39 hp39 => ?_)
    have hq39 := hp39
    refine zs_if_eq (tgt := 49) (pc := 42) C dX2_isHopeful_42 (by decide) (fun h42 => ?_) (fun h42 => ?_)
    · skip
      refine zs_iconst (pc := 49) C dX2_isHopeful_49 (by decide) ?_
      exact zs_zret (pc := 50) C hr hlk dX2_isHopeful_50 (by omega) ⟨rfl, by first | omega | (simp only [zuI_1, zuI_2, zuJ_1, zuJ_2, zuJ_3, zuP_1, zuP_2, zuP_3, zuC_1, zuC_2, reduceIte, Nat.reduceEqDiff, false_and, and_false, true_and, and_true, and_self, or_true, true_or, or_false, false_or]; omega)⟩
    · skip
      refine zs_iconst (pc := 45) C dX2_isHopeful_45 (by decide) ?_
      refine zs_goto (tgt := 50) (pc := 46) C dX2_isHopeful_46 (by decide) ?_
      exact zs_zret (pc := 50) C hr hlk dX2_isHopeful_50 (by omega) ⟨rfl, by first | omega | (simp only [zuI_1, zuI_2, zuJ_1, zuJ_2, zuJ_3, zuP_1, zuP_2, zuP_3, zuC_1, zuC_2, reduceIte, Nat.reduceEqDiff, false_and, and_false, true_and, and_true, and_self, or_true, true_or, or_false, false_or]; omega)⟩

