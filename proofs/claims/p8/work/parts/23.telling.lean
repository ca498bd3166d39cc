set_option maxHeartbeats 4000000 in
set_option maxRecDepth 100000 in
theorem c_X5_has {l : Launch} {Γ : zΓ} {G : zH} {w : Nat} {kd k : Int} (hX : zXs Γ) (hk : 0 ≤ kd ∧ kd ≤ 3) : zMet l Γ yX5_has cX5_has 3 (some .boolean) 0 [zr 6 w, zi kd, zi k] G (zpi (fun x G' => G' = G ∧ ((x = 0 ∨ x = 1) ∧ (x = 1 → 0 ≤ k ∧ k < 5 ∧ (kd = 0 → k < 4) ∧ (kd = 3 → k < 3))))) := by
  refine zMet_of RX5 hX (by decide) rfl (Nat.le_of_ble_eq_true rfl) ?_
  intro p e s m args below meth c C hr hlk
  show Z p l e (zrm 0) s m args below meth c Γ 3 0 0 (MQ below (zQc Γ (zpi (fun x G' => G' = G ∧ ((x = 0 ∨ x = 1) ∧ (x = 1 → 0 ≤ k ∧ k < 5 ∧ (kd = 0 → k < 4) ∧ (kd = 3 → k < 3)))))) args s 0 0 (zA Γ)) 0 [some (zr 6 w), some (zi kd), some (zi k)] [] G
  refine zs_loc 1 rfl (fun ha1 hb1 => ?_)
  refine zs_loc 2 rfl (fun ha2 hb2 => ?_)
  refine zs_iload_n (pc := 0) C dX5_has_0 rfl ?_
  refine zs_if_lt (tgt := 18) (pc := 1) C dX5_has_1 (by decide) (fun h1 => ?_) (fun h1 => ?_)
  · skip
    refine zs_iconst (pc := 18) C dX5_has_18 (by decide) ?_
    exact zs_zret (pc := 19) C hr hlk dX5_has_19 (by omega) ⟨rfl, by first | omega | (simp only [zuI_1, zuI_2, zuJ_1, zuJ_2, zuJ_3, zuP_1, zuP_2, zuP_3, zuC_1, zuC_2, reduceIte, Nat.reduceEqDiff, false_and, and_false, true_and, and_true, and_self, or_true, true_or, or_false, false_or]; omega)⟩
  · skip
    refine zs_iload_n (pc := 4) C dX5_has_4 rfl ?_
    refine zs_aload_n (pc := 5) C dX5_has_5 rfl ?_
    refine zs_getf (pc := 6) C dX5_has_6 w_X5_22 f_6_2 (by decide) ?_
    refine zs_iload_n (pc := 9) C dX5_has_9 rfl ?_
    refine zs_iald (r := 2037) (pc := 10) C dX5_has_10 a_37 (by decide) (by omega) rfl rfl (fun v10 e10 l10 u10 => ?_)
    have hs := rs_2037 kd.toNat
    refine zs_icmp_ge (tgt := 18) (pc := 11) C dX5_has_11 (by decide) (fun h11 => ?_) (fun h11 => ?_)
    · skip
      refine zs_iconst (pc := 18) C dX5_has_18 (by decide) ?_
      exact zs_zret (pc := 19) C hr hlk dX5_has_19 (by omega) ⟨rfl, by first | omega | (simp only [zuI_1, zuI_2, zuJ_1, zuJ_2, zuJ_3, zuP_1, zuP_2, zuP_3, zuC_1, zuC_2, reduceIte, Nat.reduceEqDiff, false_and, and_false, true_and, and_true, and_self, or_true, true_or, or_false, false_or]; omega)⟩
    · skip
      refine zs_iconst (pc := 14) C dX5_has_14 (by decide) ?_
      refine zs_goto (tgt := 19) (pc := 15) C dX5_has_15 (by decide) ?_
      exact zs_zret (pc := 19) C hr hlk dX5_has_19 (by omega) ⟨rfl, by first | omega | (simp only [zuI_1, zuI_2, zuJ_1, zuJ_2, zuJ_3, zuP_1, zuP_2, zuP_3, zuC_1, zuC_2, reduceIte, Nat.reduceEqDiff, false_and, and_false, true_and, and_true, and_self, or_true, true_or, or_false, false_or]; omega)⟩

set_option maxHeartbeats 4000000 in
set_option maxRecDepth 100000 in
theorem c_X5_fineness {l : Launch} {Γ : zΓ} {G : zH} {w : Nat} {k s0 : Int} (hX : zXs Γ) (hs : 0 ≤ s0 ∧ s0 ≤ 3) : zMet l Γ yX5_fineness cX5_fineness 5 (some .int) 2 [zr 6 w, zi k, zi s0] G (zpi (fun x G' => zsm [] G G' ∧ True)) := by
  refine zMet_of RX5 hX (by decide) rfl (Nat.le_of_ble_eq_true rfl) ?_
  intro p e s m args below meth c C hr hlk
  show Z p l e (zrm 2) s m args below meth c Γ 5 0 0 (MQ below (zQc Γ (zpi (fun x G' => zsm [] G G' ∧ True))) args s 0 0 (zA Γ)) 0 [some (zr 6 w), some (zi k), some (zi s0), none, none] [] G
  refine zs_loc 1 rfl (fun ha1 hb1 => ?_)
  refine zs_loc 2 rfl (fun ha2 hb2 => ?_)
  refine zs_aload_n (pc := 0) C dX5_fineness_0 rfl ?_
  refine zs_getf (pc := 1) C dX5_fineness_1 w_X5_12 f_6_0 (by decide) ?_
  refine zs_iload_n (pc := 4) C dX5_fineness_4 rfl ?_
  refine zVj1 (pc := 5) C dX5_fineness_5 v_X5_76 (c_X1_value hX ) (by decide) (by decide) ⟨Nat.zero_le _, Nat.zero_le _⟩ (Nat.le_of_ble_eq_true rfl) (fun x5 G5 l5 u5 hp5 => ?_)
  obtain ⟨hz5, hq5⟩ := hp5
  refine zs_lstore_n (pc := 8) C dX5_fineness_8 (by decide) ?_
  dsimp only [zset, zclr, znone]
  refine zs_lload_n (pc := 9) C dX5_fineness_9 rfl ?_
  refine zs_ldc2 (n := -9223372036854775808) (pc := 10) C dX5_fineness_10 q_X5_80 (by decide) (by decide) ?_
  refine zs_lcmp (pc := 13) C dX5_fineness_13 (fun z13 hz13 => ?_)
  refine zs_if_ne (tgt := 26) (pc := 14) C dX5_fineness_14 (by decide) (fun h14 => ?_) (fun h14 => ?_)
  · skip
    refine zs_lconst (n := 0) (pc := 26) C dX5_fineness_26 rfl (by decide) ?_
    refine zs_ldc2 (n := 999) (pc := 27) C dX5_fineness_27 q_X5_82 (by decide) (by decide) ?_
    refine zs_lload_n (pc := 30) C dX5_fineness_30 rfl ?_
    refine zs_minL (pc := 31) C dX5_fineness_31 s_X5_84 (by decide) (Nat.le_of_ble_eq_true rfl) ⟨Nat.zero_le _, Nat.zero_le _⟩ (fun z31 hz31 => ?_)
    refine zs_maxL (pc := 34) C dX5_fineness_34 s_X5_90 (by decide) (Nat.le_of_ble_eq_true rfl) ⟨Nat.zero_le _, Nat.zero_le _⟩ (fun z34 hz34 => ?_)
    first | refine zs_l2i (pc := 37) C dX5_fineness_37 (by omega) ?_ | refine zs_l2iF (pc := 37) C dX5_fineness_37 (fun z37 hz371 hz372 => ?_)
    exact zs_iret (pc := 38) C hr hlk dX5_fineness_38 ⟨by repeat (first | exact zsm_rf | assumption | refine zsm_C (by decide) ?_ | refine zsm_I (by decide) ?_ | refine zsm_J ?_ | refine zsm_c (by assumption) (by decide) ?_), trivial⟩
  · skip
    refine zs_aload_n (pc := 17) C dX5_fineness_17 rfl ?_
    refine zs_getf (pc := 18) C dX5_fineness_18 w_X5_25 f_6_3 (by decide) ?_
    refine zs_iload_n (pc := 21) C dX5_fineness_21 rfl ?_
    refine zs_iald (r := 2038) (pc := 22) C dX5_fineness_22 a_38 (by decide) (by omega) rfl (r_2038 _) (fun v22 e22 l22 u22 => ?_)
    refine zs_goto (tgt := 38) (pc := 23) C dX5_fineness_23 (by decide) ?_
    exact zs_iret (pc := 38) C hr hlk dX5_fineness_38 ⟨by repeat (first | exact zsm_rf | assumption | refine zsm_C (by decide) ?_ | refine zsm_I (by decide) ?_ | refine zsm_J ?_ | refine zsm_c (by assumption) (by decide) ?_), trivial⟩
