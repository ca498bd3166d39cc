set_option maxHeartbeats 4000000 in
set_option maxRecDepth 100000 in
theorem c_X7_drawK {l : Launch} {Γ : zΓ} {G : zH} {w t : Nat} {A W : aS}  (hX : zXs Γ) (hZ : QQ Γ w t A W G) (h21 : 0 ≤ W 21 0 ∧ W 21 0 ≤ 2147483647)  : zMet l Γ yX7_draw cX7_draw 1 (some .int) 0 [zr 8 w] G (zpi (fun x G' => zsm [812] G G' ∧ (QQ Γ w t A (up W 21 0 (wD1 W)) G' ∧ (x = wD1 W / 65536 ∧ 0 ≤ x ∧ x ≤ 32767)))) := by
  have hI := QQ_t hZ
  refine zMet_of RX7 hX (by decide) rfl (Nat.le_of_ble_eq_true rfl) ?_
  intro p e s m args below meth c C hr hlk
  show Z p l e (zrm 0) s m args below meth c Γ 1 0 0 (MQ below (zQc Γ (zpi (fun x G' => zsm [812] G G' ∧ (QQ Γ w t A (up W 21 0 (wD1 W)) G' ∧ (x = wD1 W / 65536 ∧ 0 ≤ x ∧ x ≤ 32767))))) args s 0 0 (zA Γ)) 0 [some (zr 8 w)] [] G
  refine zs_aload_n (pc := 0) C dX7_draw_0 rfl ?_
  refine zs_aload_n (pc := 1) C dX7_draw_1 rfl ?_
  refine zs_geti (r := 812) (pc := 2) C dX7_draw_2 w_X7_85 f_8_12 rfl (r_812 0) (fun v2 e2 l2 u2 => ?_)
  try simp only [QQ_812 hZ] at e2
  try subst v2
  refine zs_i2l (pc := 5) C dX7_draw_5 ?_
  refine zs_ldc2 (n := 1103515245) (pc := 6) C dX7_draw_6 q_X7_204 (by decide) (by decide) ?_
  refine zs_lmulE (pc := 9) C dX7_draw_9 (by omega) ?_
  refine zs_ldc2 (n := 12345) (pc := 10) C dX7_draw_10 q_X7_206 (by decide) (by decide) ?_
  refine zs_laddE (pc := 13) C dX7_draw_13 (by omega) ?_
  refine zs_ldc2 (n := 2147483647) (pc := 14) C dX7_draw_14 q_X7_208 (by decide) (by decide) ?_
  refine zs_landT (pc := 17) C dX7_draw_17 (by omega) ?_
  first | refine zs_l2i (pc := 18) C dX7_draw_18 (by omega) ?_ | refine zs_l2iF (pc := 18) C dX7_draw_18 (fun z18 hz181 hz182 => ?_)
  refine zs_puti (r := 812) (pc := 19) C dX7_draw_19 w_X7_85 f_8_12 rfl (r_812 0) (by omega) ?_
  refine zs_aload_n (pc := 22) C dX7_draw_22 rfl ?_
  refine zs_geti (r := 812) (pc := 23) C dX7_draw_23 w_X7_85 f_8_12 rfl (r_812 0) (fun v23 e23 l23 u23 => ?_)
  try simp only [zuI_1, zuI_2, zuJ_1, zuJ_2, zuJ_3, zuP_1, zuP_2, zuP_3, zuC_1, zuC_2, reduceIte, Nat.reduceEqDiff, false_and, and_false, true_and, and_true, and_self, or_true, true_or, or_false, false_or] at e23
  try simp only [QQ_812 hZ] at e23
  try subst v23
  refine zs_ldc (n := 65536) (pc := 26) C dX7_draw_26 q_X7_210 (by decide) (by decide) ?_
  first | refine zs_idiv (pc := 28) C dX7_draw_28 (by omega) (by omega) (fun hz281 hz282 => ?_) | refine zs_idivF (pc := 28) C dX7_draw_28 (by omega) (fun z28 hz281 hz282 => ?_)
  exact zs_iret (pc := 29) C hr hlk dX7_draw_29 ⟨by repeat (first | exact zsm_rf | assumption | refine zsm_C (by decide) ?_ | refine zsm_I (by decide) ?_ | refine zsm_J ?_ | refine zsm_c (by assumption) (by decide) ?_), ⟨(by repeat (first | assumption | apply QQw_510 | apply QQw_2026 | apply QQw_2027 | apply QQw_2028 | apply QQw_2029 | apply QQw_2030 | apply QQw_2031 | apply QQw_2032 | apply QQw_2033 | apply QQw_2034 | apply QQw_2035 | apply QQw_2048 | apply QQw_2049 | apply QQw_2050 | apply QQw_2051 | apply QQw_2052 | apply QQw_2053 | apply QQw_2054 | apply QQw_809 | apply QQw_810 | apply QQw_811 | apply QQw_812 | apply QQw_813 | apply QQ_J | refine QQ_n (by assumption) ?_ | refine QQ_sm (by assumption) (by decide) (by decide +kernel) ?_)), rfl, by omega, by omega⟩⟩

set_option maxHeartbeats 4000000 in
set_option maxRecDepth 100000 in
theorem c_X7_sinByChanceK {l : Launch} {Γ : zΓ} {G : zH} {w t : Nat} {A W : aS} {p : Int} (hX : zXs Γ) (hZ : QQ Γ w t A W G) (hW : WI A W) (hT : TA A) (hp : 0 ≤ p ∧ p ≤ 4) (hp2 : p < A 4 1)  : zMet l Γ yX7_sinByChance cX7_sinByChance 5 (some .int) 2 [zr 8 w, zi p] G (zpi (fun x G' => zsm [812] G G' ∧ (QQ Γ w t A (wAsk A W p) G' ∧ (x = wAskV A W p ∧ -1 ≤ x ∧ x ≤ 3)))) := by
  have hI := QQ_t hZ
  refine zMet_of RX7 hX (by decide) rfl (Nat.le_of_ble_eq_true rfl) ?_
  intro px9 e s m args below meth c C hr hlk
  show Z px9 l e (zrm 2) s m args below meth c Γ 5 0 0 (MQ below (zQc Γ (zpi (fun x G' => zsm [812] G G' ∧ (QQ Γ w t A (wAsk A W p) G' ∧ (x = wAskV A W p ∧ -1 ≤ x ∧ x ≤ 3))))) args s 0 0 (zA Γ)) 0 [some (zr 8 w), some (zi p), none, none, none] [] G
  refine zs_loc 1 rfl (fun ha1 hb1 => ?_)
  have h21 := hW.2.2.2.2.2.2.2.2.1
  have h4 := hT.1
  refine zs_aload_n (pc := 0) C dX7_sinByChance_0 rfl ?_
  refine zVi0 (pc := 1) C dX7_sinByChance_1 v_X7_211 (c_X7_drawK hX hZ h21) (by decide) (by decide) ⟨Nat.zero_le _, Nat.zero_le _⟩ (Nat.le_of_ble_eq_true rfl) (fun x1 G1 l1 u1 hp1 => ?_)
  obtain ⟨hz1, hq1⟩ := hp1
  have hZ1 := hq1.1
  have hX1 := hq1.2
  have hw1 : wD1 (up W 21 0 (wD1 W)) = wNext (wD1 W) := by show wNext ((up W 21 0 (wD1 W)) 21 0) = _; rw [up_eq]
  refine zs_bipush (pc := 4) C dX7_sinByChance_4 (by decide) (by decide) ?_
  first | refine zs_irem (pc := 6) C dX7_sinByChance_6 (by omega) (by omega) (fun hz61 hz62 => ?_) | refine zs_iremF (pc := 6) C dX7_sinByChance_6 (by omega) (fun z6 hz61 hz62 => ?_)
  refine zs_aload_n (pc := 7) C dX7_sinByChance_7 rfl ?_
  refine zs_getd (r := 800) (pc := 8) C dX7_sinByChance_8 w_X7_40 f_8_0 (by decide) rfl (fun v8 e8 t8 => ?_)
  try simp only [hz1.2, zuI_1, zuI_2, zuJ_1, zuJ_2, zuJ_3, zuP_1, zuP_2, zuP_3, zuC_1, zuC_2, reduceIte, Nat.reduceEqDiff, false_and, and_false, true_and, and_true, and_self, or_true, true_or, or_false, false_or] at e8
  rw [hI] at e8
  subst v8
  refine zs_getf (pc := 11) C dX7_sinByChance_11 w_X7_113 f_6_4 (by decide) ?_
  refine zs_iload_n (pc := 14) C dX7_sinByChance_14 rfl ?_
  refine zs_iald (r := 2039) (pc := 15) C dX7_sinByChance_15 a_39 (by decide) (by omega) rfl (r_2039 _) (fun v15 e15 l15 u15 => ?_)
  try simp only [QQ_2039 hZ1, QQ_2039 hZ] at e15
  try subst v15
  refine zs_icmp_ge (tgt := 23) (pc := 16) C dX7_sinByChance_16 (by decide) (fun h16 => ?_) (fun h16 => ?_)
  · skip
    refine zs_iconst (pc := 23) C dX7_sinByChance_23 (by decide) ?_
    refine zs_istore_n (pc := 24) C dX7_sinByChance_24 (by decide) ?_
    dsimp only [zset, zclr, znone]
    refine zs_aload_n (pc := 25) C dX7_sinByChance_25 rfl ?_
    refine zs_iload_n (pc := 26) C dX7_sinByChance_26 rfl ?_
    refine zVip1 (pc := 27) C dX7_sinByChance_27 v_X7_214 (c_X7_worstLeftK hX hZ1 hp hT) (by decide) (by decide) ⟨Nat.zero_le _, Nat.zero_le _⟩ (Nat.le_of_ble_eq_true rfl) (fun x27 l27 u27 hp27 => ?_)
    have hq27 := hp27
    have hq27b : x27 = wWorst A (W 12) p (A 4 0).toNat := hq27.1
    refine zs_istore_n (pc := 30) C dX7_sinByChance_30 (by decide) ?_
    dsimp only [zset, zclr, znone]
    refine zs_iload_n (pc := 31) C dX7_sinByChance_31 rfl ?_
    refine zs_if_eq (tgt := 42) (pc := 32) C dX7_sinByChance_32 (by decide) (fun h32 => ?_) (fun h32 => ?_)
    · skip
      have hho : ¬ wHon A W p := fun q => by have q1 := q.1; have q2 := q.2; omega
      refine zs_aload_n (pc := 42) C dX7_sinByChance_42 rfl ?_
      refine zs_getd (r := 800) (pc := 43) C dX7_sinByChance_43 w_X7_40 f_8_0 (by decide) rfl (fun v43 e43 t43 => ?_)
      try simp only [hz1.2, zuI_1, zuI_2, zuJ_1, zuJ_2, zuJ_3, zuP_1, zuP_2, zuP_3, zuC_1, zuC_2, reduceIte, Nat.reduceEqDiff, false_and, and_false, true_and, and_true, and_self, or_true, true_or, or_false, false_or] at e43
      rw [hI] at e43
      subst v43
      refine zs_getf (pc := 46) C dX7_sinByChance_46 w_X7_95 f_6_2 (by decide) ?_
      refine zs_iconst (pc := 49) C dX7_sinByChance_49 (by decide) ?_
      refine zs_iald (r := 2037) (pc := 50) C dX7_sinByChance_50 a_37 (by decide) (by omega) rfl rfl (fun v50 e50 l50 u50 => ?_)
      try simp only [QQ_2037 hZ1, QQ_2037 hZ, Int.reduceToNat] at e50
      try subst v50
      refine zs_aload_n (pc := 51) C dX7_sinByChance_51 rfl ?_
      refine zs_iload_n (pc := 52) C dX7_sinByChance_52 rfl ?_
      refine zVip1 (pc := 53) C dX7_sinByChance_53 v_X7_187 (c_X7_leftBitsOfK hX hZ1 hp) (by decide) (by decide) ⟨Nat.zero_le _, Nat.zero_le _⟩ (Nat.le_of_ble_eq_true rfl) (fun x53 l53 u53 hp53 => ?_)
      have hq53 := hp53
      have hq53b : x53 = wBits W p := hq53
      have hb9 := wBits_in W p
      have hfb := wFree_bits (W := W) hW hT hp
      have hp9 := pc4_in hb9
      have hfi := wFree_in (F := W 12) (p := p) (A 4 0).toNat
      refine zSip1 (pc := 56) C dX7_sinByChance_56 s_X7_217 (c_J6_bitCount_0f7a4K hX (by omega)) (by decide) ⟨Nat.zero_le _, Nat.zero_le _⟩ (Nat.le_of_ble_eq_true rfl) (fun x56 l56 u56 hp56 => ?_)
      have hq56 := hp56
      have hq56b : x56 = pc4 (wBits W p) := by rw [hq56, hq53b]
      first | refine zs_isub (pc := 59) C dX7_sinByChance_59 (by omega) ?_ | refine zs_isubF (pc := 59) C dX7_sinByChance_59 (fun z59 hz591 hz592 => ?_)
      refine zs_istore (pc := 60) C dX7_sinByChance_60 (by decide) ?_
      dsimp only [zset, zclr, znone]
      refine zs_iload (pc := 62) C dX7_sinByChance_62 rfl ?_
      refine zs_if_le (tgt := 82) (pc := 64) C dX7_sinByChance_64 (by decide) (fun h64 => ?_) (fun h64 => ?_)
      · skip
        have hfr : ¬ 0 < wFree (W 12) p (A 4 0).toNat := by omega
        refine zs_iconst (pc := 82) C dX7_sinByChance_82 (by decide) ?_
        exact zs_iret (pc := 83) C hr hlk dX7_sinByChance_83 ⟨by repeat (first | exact zsm_rf | assumption | refine zsm_C (by decide) ?_ | refine zsm_I (by decide) ?_ | refine zsm_J ?_ | refine zsm_c (by assumption) (by decide) ?_), ⟨by unfold wAsk; rw [if_neg hho]; first | (rw [if_pos hfr]; exact hZ70q) | (rw [if_neg hfr]; exact hZ1), by unfold wAskV; rw [if_neg hho]; first | (rw [if_pos hfr, ← hx70, ← hfb, ← hq53b, ← hq56]; exact hq76.1) | rw [if_neg hfr], by omega, by omega⟩⟩
      · skip
        have hfr : 0 < wFree (W 12) p (A 4 0).toNat := by omega
        refine zs_aload_n (pc := 67) C dX7_sinByChance_67 rfl ?_
        refine zs_iload_n (pc := 68) C dX7_sinByChance_68 rfl ?_
        refine zs_aload_n (pc := 69) C dX7_sinByChance_69 rfl ?_
        refine zVi0 (pc := 70) C dX7_sinByChance_70 v_X7_211 (c_X7_drawK hX hZ1 (by show 0 ≤ wD1 W ∧ wD1 W ≤ 2147483647; unfold wD1 wNext; omega)) (by decide) (by decide) ⟨Nat.zero_le _, Nat.zero_le _⟩ (Nat.le_of_ble_eq_true rfl) (fun x70 G70 l70 u70 hp70 => ?_)
        obtain ⟨hz70, hq70⟩ := hp70
        have hZ70 := hq70.1
        have hX70 := hq70.2
        have hZ70q : QQ Γ w t A (up W 21 0 (wNext (wD1 W))) G70 := (by rw [← hw1, ← up_up (u := wD1 W)]; exact hZ70)
        have hx70 := hX70.1
        rw [hw1] at hx70
        have hd9 := hX70.2
        refine zs_iload (pc := 73) C dX7_sinByChance_73 rfl ?_
        first | refine zs_irem (pc := 75) C dX7_sinByChance_75 (by omega) (by omega) (fun hz751 hz752 => ?_) | refine zs_iremF (pc := 75) C dX7_sinByChance_75 (by omega) (fun z75 hz751 hz752 => ?_)
        refine zVip2 (pc := 76) C dX7_sinByChance_76 v_X7_222 (c_X7_freeSinK hX hZ70 hp hT) (by decide) (by decide) ⟨Nat.zero_le _, Nat.zero_le _⟩ (Nat.le_of_ble_eq_true rfl) (fun x76 l76 u76 hp76 => ?_)
        have hq76 := hp76
        refine zs_goto (tgt := 83) (pc := 79) C dX7_sinByChance_79 (by decide) ?_
        exact zs_iret (pc := 83) C hr hlk dX7_sinByChance_83 ⟨by repeat (first | exact zsm_rf | assumption | refine zsm_C (by decide) ?_ | refine zsm_I (by decide) ?_ | refine zsm_J ?_ | refine zsm_c (by assumption) (by decide) ?_), ⟨by unfold wAsk; rw [if_neg hho]; first | (rw [if_pos hfr]; exact hZ70q) | (rw [if_neg hfr]; exact hZ1), by unfold wAskV; rw [if_neg hho]; first | (rw [if_pos hfr, ← hx70, ← hfb, ← hq53b, ← hq56]; exact hq76.1) | rw [if_neg hfr], by omega, by omega⟩⟩
    · skip
      refine zs_iload_n (pc := 35) C dX7_sinByChance_35 rfl ?_
      refine zs_iconst (pc := 36) C dX7_sinByChance_36 (by decide) ?_
      refine zs_icmp_eq (tgt := 42) (pc := 37) C dX7_sinByChance_37 (by decide) (fun h37 => ?_) (fun h37 => ?_)
      · skip
        have hho : ¬ wHon A W p := fun q => by have q1 := q.1; have q2 := q.2; omega
        refine zs_aload_n (pc := 42) C dX7_sinByChance_42 rfl ?_
        refine zs_getd (r := 800) (pc := 43) C dX7_sinByChance_43 w_X7_40 f_8_0 (by decide) rfl (fun v43 e43 t43 => ?_)
        try simp only [hz1.2, zuI_1, zuI_2, zuJ_1, zuJ_2, zuJ_3, zuP_1, zuP_2, zuP_3, zuC_1, zuC_2, reduceIte, Nat.reduceEqDiff, false_and, and_false, true_and, and_true, and_self, or_true, true_or, or_false, false_or] at e43
        rw [hI] at e43
        subst v43
        refine zs_getf (pc := 46) C dX7_sinByChance_46 w_X7_95 f_6_2 (by decide) ?_
        refine zs_iconst (pc := 49) C dX7_sinByChance_49 (by decide) ?_
        refine zs_iald (r := 2037) (pc := 50) C dX7_sinByChance_50 a_37 (by decide) (by omega) rfl rfl (fun v50 e50 l50 u50 => ?_)
        try simp only [QQ_2037 hZ1, QQ_2037 hZ, Int.reduceToNat] at e50
        try subst v50
        refine zs_aload_n (pc := 51) C dX7_sinByChance_51 rfl ?_
        refine zs_iload_n (pc := 52) C dX7_sinByChance_52 rfl ?_
        refine zVip1 (pc := 53) C dX7_sinByChance_53 v_X7_187 (c_X7_leftBitsOfK hX hZ1 hp) (by decide) (by decide) ⟨Nat.zero_le _, Nat.zero_le _⟩ (Nat.le_of_ble_eq_true rfl) (fun x53 l53 u53 hp53 => ?_)
        have hq53 := hp53
        have hq53b : x53 = wBits W p := hq53
        have hb9 := wBits_in W p
        have hfb := wFree_bits (W := W) hW hT hp
        have hp9 := pc4_in hb9
        have hfi := wFree_in (F := W 12) (p := p) (A 4 0).toNat
        refine zSip1 (pc := 56) C dX7_sinByChance_56 s_X7_217 (c_J6_bitCount_0f7a4K hX (by omega)) (by decide) ⟨Nat.zero_le _, Nat.zero_le _⟩ (Nat.le_of_ble_eq_true rfl) (fun x56 l56 u56 hp56 => ?_)
        have hq56 := hp56
        have hq56b : x56 = pc4 (wBits W p) := by rw [hq56, hq53b]
        first | refine zs_isub (pc := 59) C dX7_sinByChance_59 (by omega) ?_ | refine zs_isubF (pc := 59) C dX7_sinByChance_59 (fun z59 hz591 hz592 => ?_)
        refine zs_istore (pc := 60) C dX7_sinByChance_60 (by decide) ?_
        dsimp only [zset, zclr, znone]
        refine zs_iload (pc := 62) C dX7_sinByChance_62 rfl ?_
        refine zs_if_le (tgt := 82) (pc := 64) C dX7_sinByChance_64 (by decide) (fun h64 => ?_) (fun h64 => ?_)
        · skip
          have hfr : ¬ 0 < wFree (W 12) p (A 4 0).toNat := by omega
          refine zs_iconst (pc := 82) C dX7_sinByChance_82 (by decide) ?_
          exact zs_iret (pc := 83) C hr hlk dX7_sinByChance_83 ⟨by repeat (first | exact zsm_rf | assumption | refine zsm_C (by decide) ?_ | refine zsm_I (by decide) ?_ | refine zsm_J ?_ | refine zsm_c (by assumption) (by decide) ?_), ⟨by unfold wAsk; rw [if_neg hho]; first | (rw [if_pos hfr]; exact hZ70q) | (rw [if_neg hfr]; exact hZ1), by unfold wAskV; rw [if_neg hho]; first | (rw [if_pos hfr, ← hx70, ← hfb, ← hq53b, ← hq56]; exact hq76.1) | rw [if_neg hfr], by omega, by omega⟩⟩
        · skip
          have hfr : 0 < wFree (W 12) p (A 4 0).toNat := by omega
          refine zs_aload_n (pc := 67) C dX7_sinByChance_67 rfl ?_
          refine zs_iload_n (pc := 68) C dX7_sinByChance_68 rfl ?_
          refine zs_aload_n (pc := 69) C dX7_sinByChance_69 rfl ?_
          refine zVi0 (pc := 70) C dX7_sinByChance_70 v_X7_211 (c_X7_drawK hX hZ1 (by show 0 ≤ wD1 W ∧ wD1 W ≤ 2147483647; unfold wD1 wNext; omega)) (by decide) (by decide) ⟨Nat.zero_le _, Nat.zero_le _⟩ (Nat.le_of_ble_eq_true rfl) (fun x70 G70 l70 u70 hp70 => ?_)
          obtain ⟨hz70, hq70⟩ := hp70
          have hZ70 := hq70.1
          have hX70 := hq70.2
          have hZ70q : QQ Γ w t A (up W 21 0 (wNext (wD1 W))) G70 := (by rw [← hw1, ← up_up (u := wD1 W)]; exact hZ70)
          have hx70 := hX70.1
          rw [hw1] at hx70
          have hd9 := hX70.2
          refine zs_iload (pc := 73) C dX7_sinByChance_73 rfl ?_
          first | refine zs_irem (pc := 75) C dX7_sinByChance_75 (by omega) (by omega) (fun hz751 hz752 => ?_) | refine zs_iremF (pc := 75) C dX7_sinByChance_75 (by omega) (fun z75 hz751 hz752 => ?_)
          refine zVip2 (pc := 76) C dX7_sinByChance_76 v_X7_222 (c_X7_freeSinK hX hZ70 hp hT) (by decide) (by decide) ⟨Nat.zero_le _, Nat.zero_le _⟩ (Nat.le_of_ble_eq_true rfl) (fun x76 l76 u76 hp76 => ?_)
          have hq76 := hp76
          refine zs_goto (tgt := 83) (pc := 79) C dX7_sinByChance_79 (by decide) ?_
          exact zs_iret (pc := 83) C hr hlk dX7_sinByChance_83 ⟨by repeat (first | exact zsm_rf | assumption | refine zsm_C (by decide) ?_ | refine zsm_I (by decide) ?_ | refine zsm_J ?_ | refine zsm_c (by assumption) (by decide) ?_), ⟨by unfold wAsk; rw [if_neg hho]; first | (rw [if_pos hfr]; exact hZ70q) | (rw [if_neg hfr]; exact hZ1), by unfold wAskV; rw [if_neg hho]; first | (rw [if_pos hfr, ← hx70, ← hfb, ← hq53b, ← hq56]; exact hq76.1) | rw [if_neg hfr], by omega, by omega⟩⟩
      · skip
        have hho : wHon A W p := ⟨by omega, by omega⟩
        refine zs_iload_n (pc := 40) C dX7_sinByChance_40 rfl ?_
        exact zs_iret (pc := 41) C hr hlk dX7_sinByChance_41 ⟨by repeat (first | exact zsm_rf | assumption | refine zsm_C (by decide) ?_ | refine zsm_I (by decide) ?_ | refine zsm_J ?_ | refine zsm_c (by assumption) (by decide) ?_), ⟨by unfold wAsk; rw [if_pos hho]; exact hZ1, by unfold wAskV; rw [if_pos hho]; exact hq27b, by omega, by omega⟩⟩
  · skip
    refine zs_iconst (pc := 19) C dX7_sinByChance_19 (by decide) ?_
    refine zs_goto (tgt := 24) (pc := 20) C dX7_sinByChance_20 (by decide) ?_
    refine zs_istore_n (pc := 24) C dX7_sinByChance_24 (by decide) ?_
    dsimp only [zset, zclr, znone]
    refine zs_aload_n (pc := 25) C dX7_sinByChance_25 rfl ?_
    refine zs_iload_n (pc := 26) C dX7_sinByChance_26 rfl ?_
    refine zVip1 (pc := 27) C dX7_sinByChance_27 v_X7_214 (c_X7_worstLeftK hX hZ1 hp hT) (by decide) (by decide) ⟨Nat.zero_le _, Nat.zero_le _⟩ (Nat.le_of_ble_eq_true rfl) (fun x27 l27 u27 hp27 => ?_)
    have hq27 := hp27
    have hq27b : x27 = wWorst A (W 12) p (A 4 0).toNat := hq27.1
    refine zs_istore_n (pc := 30) C dX7_sinByChance_30 (by decide) ?_
    dsimp only [zset, zclr, znone]
    refine zs_iload_n (pc := 31) C dX7_sinByChance_31 rfl ?_
    refine zs_if_eq (tgt := 42) (pc := 32) C dX7_sinByChance_32 (by decide) (fun h32 => ?_) (fun h32 => ?_)
    · skip
      have hho : ¬ wHon A W p := fun q => by have q1 := q.1; have q2 := q.2; omega
      refine zs_aload_n (pc := 42) C dX7_sinByChance_42 rfl ?_
      refine zs_getd (r := 800) (pc := 43) C dX7_sinByChance_43 w_X7_40 f_8_0 (by decide) rfl (fun v43 e43 t43 => ?_)
      try simp only [hz1.2, zuI_1, zuI_2, zuJ_1, zuJ_2, zuJ_3, zuP_1, zuP_2, zuP_3, zuC_1, zuC_2, reduceIte, Nat.reduceEqDiff, false_and, and_false, true_and, and_true, and_self, or_true, true_or, or_false, false_or] at e43
      rw [hI] at e43
      subst v43
      refine zs_getf (pc := 46) C dX7_sinByChance_46 w_X7_95 f_6_2 (by decide) ?_
      refine zs_iconst (pc := 49) C dX7_sinByChance_49 (by decide) ?_
      refine zs_iald (r := 2037) (pc := 50) C dX7_sinByChance_50 a_37 (by decide) (by omega) rfl rfl (fun v50 e50 l50 u50 => ?_)
      try simp only [QQ_2037 hZ1, QQ_2037 hZ, Int.reduceToNat] at e50
      try subst v50
      refine zs_aload_n (pc := 51) C dX7_sinByChance_51 rfl ?_
      refine zs_iload_n (pc := 52) C dX7_sinByChance_52 rfl ?_
      refine zVip1 (pc := 53) C dX7_sinByChance_53 v_X7_187 (c_X7_leftBitsOfK hX hZ1 hp) (by decide) (by decide) ⟨Nat.zero_le _, Nat.zero_le _⟩ (Nat.le_of_ble_eq_true rfl) (fun x53 l53 u53 hp53 => ?_)
      have hq53 := hp53
      have hq53b : x53 = wBits W p := hq53
      have hb9 := wBits_in W p
      have hfb := wFree_bits (W := W) hW hT hp
      have hp9 := pc4_in hb9
      have hfi := wFree_in (F := W 12) (p := p) (A 4 0).toNat
      refine zSip1 (pc := 56) C dX7_sinByChance_56 s_X7_217 (c_J6_bitCount_0f7a4K hX (by omega)) (by decide) ⟨Nat.zero_le _, Nat.zero_le _⟩ (Nat.le_of_ble_eq_true rfl) (fun x56 l56 u56 hp56 => ?_)
      have hq56 := hp56
      have hq56b : x56 = pc4 (wBits W p) := by rw [hq56, hq53b]
      first | refine zs_isub (pc := 59) C dX7_sinByChance_59 (by omega) ?_ | refine zs_isubF (pc := 59) C dX7_sinByChance_59 (fun z59 hz591 hz592 => ?_)
      refine zs_istore (pc := 60) C dX7_sinByChance_60 (by decide) ?_
      dsimp only [zset, zclr, znone]
      refine zs_iload (pc := 62) C dX7_sinByChance_62 rfl ?_
      refine zs_if_le (tgt := 82) (pc := 64) C dX7_sinByChance_64 (by decide) (fun h64 => ?_) (fun h64 => ?_)
      · skip
        have hfr : ¬ 0 < wFree (W 12) p (A 4 0).toNat := by omega
        refine zs_iconst (pc := 82) C dX7_sinByChance_82 (by decide) ?_
        exact zs_iret (pc := 83) C hr hlk dX7_sinByChance_83 ⟨by repeat (first | exact zsm_rf | assumption | refine zsm_C (by decide) ?_ | refine zsm_I (by decide) ?_ | refine zsm_J ?_ | refine zsm_c (by assumption) (by decide) ?_), ⟨by unfold wAsk; rw [if_neg hho]; first | (rw [if_pos hfr]; exact hZ70q) | (rw [if_neg hfr]; exact hZ1), by unfold wAskV; rw [if_neg hho]; first | (rw [if_pos hfr, ← hx70, ← hfb, ← hq53b, ← hq56]; exact hq76.1) | rw [if_neg hfr], by omega, by omega⟩⟩
      · skip
        have hfr : 0 < wFree (W 12) p (A 4 0).toNat := by omega
        refine zs_aload_n (pc := 67) C dX7_sinByChance_67 rfl ?_
        refine zs_iload_n (pc := 68) C dX7_sinByChance_68 rfl ?_
        refine zs_aload_n (pc := 69) C dX7_sinByChance_69 rfl ?_
        refine zVi0 (pc := 70) C dX7_sinByChance_70 v_X7_211 (c_X7_drawK hX hZ1 (by show 0 ≤ wD1 W ∧ wD1 W ≤ 2147483647; unfold wD1 wNext; omega)) (by decide) (by decide) ⟨Nat.zero_le _, Nat.zero_le _⟩ (Nat.le_of_ble_eq_true rfl) (fun x70 G70 l70 u70 hp70 => ?_)
        obtain ⟨hz70, hq70⟩ := hp70
        have hZ70 := hq70.1
        have hX70 := hq70.2
        have hZ70q : QQ Γ w t A (up W 21 0 (wNext (wD1 W))) G70 := (by rw [← hw1, ← up_up (u := wD1 W)]; exact hZ70)
        have hx70 := hX70.1
        rw [hw1] at hx70
        have hd9 := hX70.2
        refine zs_iload (pc := 73) C dX7_sinByChance_73 rfl ?_
        first | refine zs_irem (pc := 75) C dX7_sinByChance_75 (by omega) (by omega) (fun hz751 hz752 => ?_) | refine zs_iremF (pc := 75) C dX7_sinByChance_75 (by omega) (fun z75 hz751 hz752 => ?_)
        refine zVip2 (pc := 76) C dX7_sinByChance_76 v_X7_222 (c_X7_freeSinK hX hZ70 hp hT) (by decide) (by decide) ⟨Nat.zero_le _, Nat.zero_le _⟩ (Nat.le_of_ble_eq_true rfl) (fun x76 l76 u76 hp76 => ?_)
        have hq76 := hp76
        refine zs_goto (tgt := 83) (pc := 79) C dX7_sinByChance_79 (by decide) ?_
        exact zs_iret (pc := 83) C hr hlk dX7_sinByChance_83 ⟨by repeat (first | exact zsm_rf | assumption | refine zsm_C (by decide) ?_ | refine zsm_I (by decide) ?_ | refine zsm_J ?_ | refine zsm_c (by assumption) (by decide) ?_), ⟨by unfold wAsk; rw [if_neg hho]; first | (rw [if_pos hfr]; exact hZ70q) | (rw [if_neg hfr]; exact hZ1), by unfold wAskV; rw [if_neg hho]; first | (rw [if_pos hfr, ← hx70, ← hfb, ← hq53b, ← hq56]; exact hq76.1) | rw [if_neg hfr], by omega, by omega⟩⟩
    · skip
      refine zs_iload_n (pc := 35) C dX7_sinByChance_35 rfl ?_
      refine zs_iconst (pc := 36) C dX7_sinByChance_36 (by decide) ?_
      refine zs_icmp_eq (tgt := 42) (pc := 37) C dX7_sinByChance_37 (by decide) (fun h37 => ?_) (fun h37 => ?_)
      · skip
        have hho : ¬ wHon A W p := fun q => by have q1 := q.1; have q2 := q.2; omega
        refine zs_aload_n (pc := 42) C dX7_sinByChance_42 rfl ?_
        refine zs_getd (r := 800) (pc := 43) C dX7_sinByChance_43 w_X7_40 f_8_0 (by decide) rfl (fun v43 e43 t43 => ?_)
        try simp only [hz1.2, zuI_1, zuI_2, zuJ_1, zuJ_2, zuJ_3, zuP_1, zuP_2, zuP_3, zuC_1, zuC_2, reduceIte, Nat.reduceEqDiff, false_and, and_false, true_and, and_true, and_self, or_true, true_or, or_false, false_or] at e43
        rw [hI] at e43
        subst v43
        refine zs_getf (pc := 46) C dX7_sinByChance_46 w_X7_95 f_6_2 (by decide) ?_
        refine zs_iconst (pc := 49) C dX7_sinByChance_49 (by decide) ?_
        refine zs_iald (r := 2037) (pc := 50) C dX7_sinByChance_50 a_37 (by decide) (by omega) rfl rfl (fun v50 e50 l50 u50 => ?_)
        try simp only [QQ_2037 hZ1, QQ_2037 hZ, Int.reduceToNat] at e50
        try subst v50
        refine zs_aload_n (pc := 51) C dX7_sinByChance_51 rfl ?_
        refine zs_iload_n (pc := 52) C dX7_sinByChance_52 rfl ?_
        refine zVip1 (pc := 53) C dX7_sinByChance_53 v_X7_187 (c_X7_leftBitsOfK hX hZ1 hp) (by decide) (by decide) ⟨Nat.zero_le _, Nat.zero_le _⟩ (Nat.le_of_ble_eq_true rfl) (fun x53 l53 u53 hp53 => ?_)
        have hq53 := hp53
        have hq53b : x53 = wBits W p := hq53
        have hb9 := wBits_in W p
        have hfb := wFree_bits (W := W) hW hT hp
        have hp9 := pc4_in hb9
        have hfi := wFree_in (F := W 12) (p := p) (A 4 0).toNat
        refine zSip1 (pc := 56) C dX7_sinByChance_56 s_X7_217 (c_J6_bitCount_0f7a4K hX (by omega)) (by decide) ⟨Nat.zero_le _, Nat.zero_le _⟩ (Nat.le_of_ble_eq_true rfl) (fun x56 l56 u56 hp56 => ?_)
        have hq56 := hp56
        have hq56b : x56 = pc4 (wBits W p) := by rw [hq56, hq53b]
        first | refine zs_isub (pc := 59) C dX7_sinByChance_59 (by omega) ?_ | refine zs_isubF (pc := 59) C dX7_sinByChance_59 (fun z59 hz591 hz592 => ?_)
        refine zs_istore (pc := 60) C dX7_sinByChance_60 (by decide) ?_
        dsimp only [zset, zclr, znone]
        refine zs_iload (pc := 62) C dX7_sinByChance_62 rfl ?_
        refine zs_if_le (tgt := 82) (pc := 64) C dX7_sinByChance_64 (by decide) (fun h64 => ?_) (fun h64 => ?_)
        · skip
          have hfr : ¬ 0 < wFree (W 12) p (A 4 0).toNat := by omega
          refine zs_iconst (pc := 82) C dX7_sinByChance_82 (by decide) ?_
          exact zs_iret (pc := 83) C hr hlk dX7_sinByChance_83 ⟨by repeat (first | exact zsm_rf | assumption | refine zsm_C (by decide) ?_ | refine zsm_I (by decide) ?_ | refine zsm_J ?_ | refine zsm_c (by assumption) (by decide) ?_), ⟨by unfold wAsk; rw [if_neg hho]; first | (rw [if_pos hfr]; exact hZ70q) | (rw [if_neg hfr]; exact hZ1), by unfold wAskV; rw [if_neg hho]; first | (rw [if_pos hfr, ← hx70, ← hfb, ← hq53b, ← hq56]; exact hq76.1) | rw [if_neg hfr], by omega, by omega⟩⟩
        · skip
          have hfr : 0 < wFree (W 12) p (A 4 0).toNat := by omega
          refine zs_aload_n (pc := 67) C dX7_sinByChance_67 rfl ?_
          refine zs_iload_n (pc := 68) C dX7_sinByChance_68 rfl ?_
          refine zs_aload_n (pc := 69) C dX7_sinByChance_69 rfl ?_
          refine zVi0 (pc := 70) C dX7_sinByChance_70 v_X7_211 (c_X7_drawK hX hZ1 (by show 0 ≤ wD1 W ∧ wD1 W ≤ 2147483647; unfold wD1 wNext; omega)) (by decide) (by decide) ⟨Nat.zero_le _, Nat.zero_le _⟩ (Nat.le_of_ble_eq_true rfl) (fun x70 G70 l70 u70 hp70 => ?_)
          obtain ⟨hz70, hq70⟩ := hp70
          have hZ70 := hq70.1
          have hX70 := hq70.2
          have hZ70q : QQ Γ w t A (up W 21 0 (wNext (wD1 W))) G70 := (by rw [← hw1, ← up_up (u := wD1 W)]; exact hZ70)
          have hx70 := hX70.1
          rw [hw1] at hx70
          have hd9 := hX70.2
          refine zs_iload (pc := 73) C dX7_sinByChance_73 rfl ?_
          first | refine zs_irem (pc := 75) C dX7_sinByChance_75 (by omega) (by omega) (fun hz751 hz752 => ?_) | refine zs_iremF (pc := 75) C dX7_sinByChance_75 (by omega) (fun z75 hz751 hz752 => ?_)
          refine zVip2 (pc := 76) C dX7_sinByChance_76 v_X7_222 (c_X7_freeSinK hX hZ70 hp hT) (by decide) (by decide) ⟨Nat.zero_le _, Nat.zero_le _⟩ (Nat.le_of_ble_eq_true rfl) (fun x76 l76 u76 hp76 => ?_)
          have hq76 := hp76
          refine zs_goto (tgt := 83) (pc := 79) C dX7_sinByChance_79 (by decide) ?_
          exact zs_iret (pc := 83) C hr hlk dX7_sinByChance_83 ⟨by repeat (first | exact zsm_rf | assumption | refine zsm_C (by decide) ?_ | refine zsm_I (by decide) ?_ | refine zsm_J ?_ | refine zsm_c (by assumption) (by decide) ?_), ⟨by unfold wAsk; rw [if_neg hho]; first | (rw [if_pos hfr]; exact hZ70q) | (rw [if_neg hfr]; exact hZ1), by unfold wAskV; rw [if_neg hho]; first | (rw [if_pos hfr, ← hx70, ← hfb, ← hq53b, ← hq56]; exact hq76.1) | rw [if_neg hfr], by omega, by omega⟩⟩
      · skip
        have hho : wHon A W p := ⟨by omega, by omega⟩
        refine zs_iload_n (pc := 40) C dX7_sinByChance_40 rfl ?_
        exact zs_iret (pc := 41) C hr hlk dX7_sinByChance_41 ⟨by repeat (first | exact zsm_rf | assumption | refine zsm_C (by decide) ?_ | refine zsm_I (by decide) ?_ | refine zsm_J ?_ | refine zsm_c (by assumption) (by decide) ?_), ⟨by unfold wAsk; rw [if_pos hho]; exact hZ1, by unfold wAskV; rw [if_pos hho]; exact hq27b, by omega, by omega⟩⟩
