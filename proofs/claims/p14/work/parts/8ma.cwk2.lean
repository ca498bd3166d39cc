section
set_option maxHeartbeats 4000000 in
set_option maxRecDepth 100000 in
theorem c_X7_drawK {l : Launch} {Γ : zΓ} {G : zH} {w t : Nat} {A W : aS}  (hX : zXs Γ) (hZ : QQ Γ w t A W G) (h21 : 0 ≤ W 21 0 ∧ W 21 0 ≤ 2147483647)  : zMet l Γ yX7_draw cX7_draw 1 (some .int) 0 [zr 8 w] G (zpi (fun x G' => zsm [812] G G' ∧ (QQ Γ w t A (up W 21 0 (wD1 W)) G' ∧ (x = wD1 W / 65536 ∧ 0 ≤ x ∧ x ≤ 32767)))) := by
  have hI := QQ_t hZ
  refine zMet_of RX7 hX (by decide) rfl (Nat.le_of_ble_eq_true rfl) ?_
  intro p e s m args below meth c C hr hlk
  show Z p l e (zrm 0) s m args below meth c Γ 1 0 0 (MQ below (zQc Γ (zpi (fun x G' => zsm [812] G G' ∧ (QQ Γ w t A (up W 21 0 (wD1 W)) G' ∧ (x = wD1 W / 65536 ∧ 0 ≤ x ∧ x ≤ 32767))))) args s 0 0 (zA Γ)) 0 [some (zr 8 w)] [] G
  refine zs_aload_n (pc := 0) C dX7_draw_0 rfl ?_
  refine zs_aload_n (pc := 1) C dX7_draw_1 rfl ?_
  refine zs_geti (r := 812) (pc := 2) C dX7_draw_2 w_X7_85 f_8_12 rfl (r_812 0) (fun v2 e2 l2 u2 => ?_)
  try simp only [QQ_812 hZ] at e2
  try subst v2
  refine zs_i2l (pc := 5) C dX7_draw_5 ?_
  refine zs_ldc2 (n := 1103515245) (pc := 6) C dX7_draw_6 q_X7_204 (by decide) (by decide) ?_
  refine zs_lmulE (pc := 9) C dX7_draw_9 (by omega) ?_
  refine zs_ldc2 (n := 12345) (pc := 10) C dX7_draw_10 q_X7_206 (by decide) (by decide) ?_
  refine zs_laddE (pc := 13) C dX7_draw_13 (by omega) ?_
  refine zs_ldc2 (n := 2147483647) (pc := 14) C dX7_draw_14 q_X7_208 (by decide) (by decide) ?_
  refine zs_landT (pc := 17) C dX7_draw_17 (by omega) ?_
  first | refine zs_l2i (pc := 18) C dX7_draw_18 (by omega) ?_ | refine zs_l2iF (pc := 18) C dX7_draw_18 (fun z18 hz181 hz182 => ?_)
  refine zs_puti (r := 812) (pc := 19) C dX7_draw_19 w_X7_85 f_8_12 rfl (r_812 0) (by omega) ?_
  refine zs_aload_n (pc := 22) C dX7_draw_22 rfl ?_
  refine zs_geti (r := 812) (pc := 23) C dX7_draw_23 w_X7_85 f_8_12 rfl (r_812 0) (fun v23 e23 l23 u23 => ?_)
  try simp only [zuI_1, zuI_2, zuJ_1, zuJ_2, zuJ_3, zuP_1, zuP_2, zuP_3, zuC_1, zuC_2, reduceIte, Nat.reduceEqDiff, false_and, and_false, true_and, and_true, and_self, or_true, true_or, or_false, false_or] at e23
  try simp only [QQ_812 hZ] at e23
  try subst v23
  refine zs_ldc (n := 65536) (pc := 26) C dX7_draw_26 q_X7_210 (by decide) (by decide) ?_
  first | refine zs_idiv (pc := 28) C dX7_draw_28 (by omega) (by omega) (fun hz281 hz282 => ?_) | refine zs_idivF (pc := 28) C dX7_draw_28 (by omega) (fun z28 hz281 hz282 => ?_)
  exact zs_iret (pc := 29) C hr hlk dX7_draw_29 ⟨by repeat (first | exact zsm_rf | assumption | refine zsm_C (by decide) ?_ | refine zsm_I (by decide) ?_ | refine zsm_J ?_ | refine zsm_c (by assumption) (by decide) ?_), ⟨(by repeat (first | assumption | apply QQw_510 | apply QQw_2026 | apply QQw_2027 | apply QQw_2028 | apply QQw_2029 | apply QQw_2030 | apply QQw_2031 | apply QQw_2032 | apply QQw_2033 | apply QQw_2034 | apply QQw_2035 | apply QQw_2048 | apply QQw_2049 | apply QQw_2050 | apply QQw_2051 | apply QQw_2052 | apply QQw_2053 | apply QQw_2054 | apply QQw_809 | apply QQw_810 | apply QQw_811 | apply QQw_812 | apply QQw_813 | apply QQ_J | refine QQ_n (by assumption) ?_ | refine QQ_sm (by assumption) (by decide) (by decide +kernel) ?_)), rfl, by omega, by omega⟩⟩

set_option maxHeartbeats 4000000 in
set_option maxRecDepth 100000 in
theorem c_X7_sinByChanceK {l : Launch} {Γ : zΓ} {G : zH} {w t : Nat} {A W : aS} {p : Int} (hX : zXs Γ) (hZ : QQ Γ w t A W G) (hW : WI A W) (hT : TA A) (hp : 0 ≤ p ∧ p ≤ 4) (hp2 : p < A 4 1)  : zMet l Γ yX7_sinByChance cX7_sinByChance 5 (some .int) 2 [zr 8 w, zi p] G (zpi (fun x G' => zsm [812] G G' ∧ (QQ Γ w t A (wAsk A W p) G' ∧ (x = wAskV A W p ∧ -1 ≤ x ∧ x ≤ 3)))) := by
  have hI := QQ_t hZ
  refine zMet_of RX7 hX (by decide) rfl (Nat.le_of_ble_eq_true rfl) ?_
  intro px9 e s m args below meth c C hr hlk
  show Z px9 l e (zrm 2) s m args below meth c Γ 5 0 0 (MQ below (zQc Γ (zpi (fun x G' => zsm [812] G G' ∧ (QQ Γ w t A (wAsk A W p) G' ∧ (x = wAskV A W p ∧ -1 ≤ x ∧ x ≤ 3))))) args s 0 0 (zA Γ)) 0 [some (zr 8 w), some (zi p), none, none, none] [] G
  refine zs_loc 1 rfl (fun ha1 hb1 => ?_)
  have h21 := hW.2.2.2.2.2.2.2.2.1
  have h4 := hT.1
  refine zs_aload_n (pc := 0) C dX7_sinByChance_0 rfl ?_
  refine zVi0 (pc := 1) C dX7_sinByChance_1 v_X7_211 (c_X7_drawK hX hZ h21) (by decide) (by decide) ⟨Nat.zero_le _, Nat.zero_le _⟩ (Nat.le_of_ble_eq_true rfl) (fun x1 G1 l1 u1 hp1 => ?_)
  obtain ⟨hz1, hq1⟩ := hp1
  have hZ1 := hq1.1
  have hX1 := hq1.2
  have hw1 : wD1 (up W 21 0 (wD1 W)) = wNext (wD1 W) := by show wNext ((up W 21 0 (wD1 W)) 21 0) = _; rw [up_eq]
  refine zs_bipush (pc := 4) C dX7_sinByChance_4 (by decide) (by decide) ?_
  first | refine zs_irem (pc := 6) C dX7_sinByChance_6 (by omega) (by omega) (fun hz61 hz62 => ?_) | refine zs_iremF (pc := 6) C dX7_sinByChance_6 (by omega) (fun z6 hz61 hz62 => ?_)
  refine zs_aload_n (pc := 7) C dX7_sinByChance_7 rfl ?_
  refine zs_getd (r := 800) (pc := 8) C dX7_sinByChance_8 w_X7_40 f_8_0 (by decide) rfl (fun v8 e8 t8 => ?_)
  try simp only [hz1.2, zuI_1, zuI_2, zuJ_1, zuJ_2, zuJ_3, zuP_1, zuP_2, zuP_3, zuC_1, zuC_2, reduceIte, Nat.reduceEqDiff, false_and, and_false, true_and, and_true, and_self, or_true, true_or, or_false, false_or] at e8
  rw [hI] at e8
  subst v8
  refine zs_getf (pc := 11) C dX7_sinByChance_11 w_X7_113 f_6_4 (by decide) ?_
  refine zs_iload_n (pc := 14) C dX7_sinByChance_14 rfl ?_
  refine zs_iald (r := 2039) (pc := 15) C dX7_sinByChance_15 a_39 (by decide) (by omega) rfl (r_2039 _) (fun v15 e15 l15 u15 => ?_)
  try simp only [QQ_2039 hZ1, QQ_2039 hZ] at e15
  try subst v15
  refine zs_icmp_ge (tgt := 23) (pc := 16) C dX7_sinByChance_16 (by decide) (fun h16 => ?_) (fun h16 => ?_)
  · skip
    refine zs_iconst (pc := 23) C dX7_sinByChance_23 (by decide) ?_
    refine zs_istore_n (pc := 24) C dX7_sinByChance_24 (by decide) ?_
    dsimp only [zset, zclr, znone]
    refine zs_aload_n (pc := 25) C dX7_sinByChance_25 rfl ?_
    refine zs_iload_n (pc := 26) C dX7_sinByChance_26 rfl ?_
    refine zVip1 (pc := 27) C dX7_sinByChance_27 v_X7_214 (c_X7_worstLeftK hX hZ1 hp hT) (by decide) (by decide) ⟨Nat.zero_le _, Nat.zero_le _⟩ (Nat.le_of_ble_eq_true rfl) (fun x27 l27 u27 hp27 => ?_)
    have hq27 := hp27
    have hq27b : x27 = wWorst A (W 12) p (A 4 0).toNat := hq27.1
    refine zs_istore_n (pc := 30) C dX7_sinByChance_30 (by decide) ?_
    dsimp only [zset, zclr, znone]
    refine zs_iload_n (pc := 31) C dX7_sinByChance_31 rfl ?_
    refine zs_if_eq (tgt := 42) (pc := 32) C dX7_sinByChance_32 (by decide) (fun h32 => ?_) (fun h32 => ?_)
    · skip
      have hho : ¬ wHon A W p := fun q => by have q1 := q.1; have q2 := q.2; omega
      refine zs_aload_n (pc := 42) C dX7_sinByChance_42 rfl ?_
      refine zs_getd (r := 800) (pc := 43) C dX7_sinByChance_43 w_X7_40 f_8_0 (by decide) rfl (fun v43 e43 t43 => ?_)
      try simp only [hz1.2, zuI_1, zuI_2, zuJ_1, zuJ_2, zuJ_3, zuP_1, zuP_2, zuP_3, zuC_1, zuC_2, reduceIte, Nat.reduceEqDiff, false_and, and_false, true_and, and_true, and_self, or_true, true_or, or_false, false_or] at e43
      rw [hI] at e43
      subst v43
      refine zs_getf (pc := 46) C dX7_sinByChance_46 w_X7_95 f_6_2 (by decide) ?_
      refine zs_iconst (pc := 49) C dX7_sinByChance_49 (by decide) ?_
      refine zs_iald (r := 2037) (pc := 50) C dX7_sinByChance_50 a_37 (by decide) (by omega) rfl rfl (fun v50 e50 l50 u50 => ?_)
      try simp only [QQ_2037 hZ1, QQ_2037 hZ, Int.reduceToNat] at e50
      try subst v50
      refine zs_aload_n (pc := 51) C dX7_sinByChance_51 rfl ?_
      refine zs_iload_n (pc := 52) C dX7_sinByChance_52 rfl ?_
      refine zVip1 (pc := 53) C dX7_sinByChance_53 v_X7_187 (c_X7_leftBitsOfK hX hZ1 hp) (by decide) (by decide) ⟨Nat.zero_le _, Nat.zero_le _⟩ (Nat.le_of_ble_eq_true rfl) (fun x53 l53 u53 hp53 => ?_)
      have hq53 := hp53
      have hq53b : x53 = wBits W p := hq53
      have hb9 := wBits_in W p
      have hfb := wFree_bits (W := W) hW hT hp
      have hp9 := pc4_in hb9
      have hfi := wFree_in (F := W 12) (p := p) (A 4 0).toNat
      refine zSip1 (pc := 56) C dX7_sinByChance_56 s_X7_217 (c_J6_bitCount_0f7a4K hX (by omega)) (by decide) ⟨Nat.zero_le _, Nat.zero_le _⟩ (Nat.le_of_ble_eq_true rfl) (fun x56 l56 u56 hp56 => ?_)
      have hq56 := hp56
      have hq56b : x56 = pc4 (wBits W p) := by rw [hq56, hq53b]
      first | refine zs_isub (pc := 59) C dX7_sinByChance_59 (by omega) ?_ | refine zs_isubF (pc := 59) C dX7_sinByChance_59 (fun z59 hz591 hz592 => ?_)
      refine zs_istore (pc := 60) C dX7_sinByChance_60 (by decide) ?_
      dsimp only [zset, zclr, znone]
      refine zs_iload (pc := 62) C dX7_sinByChance_62 rfl ?_
      refine zs_if_le (tgt := 82) (pc := 64) C dX7_sinByChance_64 (by decide) (fun h64 => ?_) (fun h64 => ?_)
      · skip
        have hfr : ¬ 0 < wFree (W 12) p (A 4 0).toNat := by omega
        refine zs_iconst (pc := 82) C dX7_sinByChance_82 (by decide) ?_
        exact zs_iret (pc := 83) C hr hlk dX7_sinByChance_83 ⟨by repeat (first | exact zsm_rf | assumption | refine zsm_C (by decide) ?_ | refine zsm_I (by decide) ?_ | refine zsm_J ?_ | refine zsm_c (by assumption) (by decide) ?_), ⟨by unfold wAsk; rw [if_neg hho]; first | (rw [if_pos hfr]; exact hZ70q) | (rw [if_neg hfr]; exact hZ1), by unfold wAskV; rw [if_neg hho]; first | (rw [if_pos hfr, ← hx70, ← hfb, ← hq53b, ← hq56]; exact hq76.1) | rw [if_neg hfr], by omega, by omega⟩⟩
      · skip
        have hfr : 0 < wFree (W 12) p (A 4 0).toNat := by omega
        refine zs_aload_n (pc := 67) C dX7_sinByChance_67 rfl ?_
        refine zs_iload_n (pc := 68) C dX7_sinByChance_68 rfl ?_
        refine zs_aload_n (pc := 69) C dX7_sinByChance_69 rfl ?_
        refine zVi0 (pc := 70) C dX7_sinByChance_70 v_X7_211 (c_X7_drawK hX hZ1 (by show 0 ≤ wD1 W ∧ wD1 W ≤ 2147483647; unfold wD1 wNext; omega)) (by decide) (by decide) ⟨Nat.zero_le _, Nat.zero_le _⟩ (Nat.le_of_ble_eq_true rfl) (fun x70 G70 l70 u70 hp70 => ?_)
        obtain ⟨hz70, hq70⟩ := hp70
        have hZ70 := hq70.1
        have hX70 := hq70.2
        have hZ70q : QQ Γ w t A (up W 21 0 (wNext (wD1 W))) G70 := (by rw [← hw1, ← up_up (u := wD1 W)]; exact hZ70)
        have hx70 := hX70.1
        rw [hw1] at hx70
        have hd9 := hX70.2
        refine zs_iload (pc := 73) C dX7_sinByChance_73 rfl ?_
        first | refine zs_irem (pc := 75) C dX7_sinByChance_75 (by omega) (by omega) (fun hz751 hz752 => ?_) | refine zs_iremF (pc := 75) C dX7_sinByChance_75 (by omega) (fun z75 hz751 hz752 => ?_)
        refine zVip2 (pc := 76) C dX7_sinByChance_76 v_X7_222 (c_X7_freeSinK hX hZ70 hp hT) (by decide) (by decide) ⟨Nat.zero_le _, Nat.zero_le _⟩ (Nat.le_of_ble_eq_true rfl) (fun x76 l76 u76 hp76 => ?_)
        have hq76 := hp76
        refine zs_goto (tgt := 83) (pc := 79) C dX7_sinByChance_79 (by decide) ?_
        exact zs_iret (pc := 83) C hr hlk dX7_sinByChance_83 ⟨by repeat (first | exact zsm_rf | assumption | refine zsm_C (by decide) ?_ | refine zsm_I (by decide) ?_ | refine zsm_J ?_ | refine zsm_c (by assumption) (by decide) ?_), ⟨by unfold wAsk; rw [if_neg hho]; first | (rw [if_pos hfr]; exact hZ70q) | (rw [if_neg hfr]; exact hZ1), by unfold wAskV; rw [if_neg hho]; first | (rw [if_pos hfr, ← hx70, ← hfb, ← hq53b, ← hq56]; exact hq76.1) | rw [if_neg hfr], by omega, by omega⟩⟩
    · skip
      refine zs_iload_n (pc := 35) C dX7_sinByChance_35 rfl ?_
      refine zs_iconst (pc := 36) C dX7_sinByChance_36 (by decide) ?_
      refine zs_icmp_eq (tgt := 42) (pc := 37) C dX7_sinByChance_37 (by decide) (fun h37 => ?_) (fun h37 => ?_)
      · skip
        have hho : ¬ wHon A W p := fun q => by have q1 := q.1; have q2 := q.2; omega
        refine zs_aload_n (pc := 42) C dX7_sinByChance_42 rfl ?_
        refine zs_getd (r := 800) (pc := 43) C dX7_sinByChance_43 w_X7_40 f_8_0 (by decide) rfl (fun v43 e43 t43 => ?_)
        try simp only [hz1.2, zuI_1, zuI_2, zuJ_1, zuJ_2, zuJ_3, zuP_1, zuP_2, zuP_3, zuC_1, zuC_2, reduceIte, Nat.reduceEqDiff, false_and, and_false, true_and, and_true, and_self, or_true, true_or, or_false, false_or] at e43
        rw [hI] at e43
        subst v43
        refine zs_getf (pc := 46) C dX7_sinByChance_46 w_X7_95 f_6_2 (by decide) ?_
        refine zs_iconst (pc := 49) C dX7_sinByChance_49 (by decide) ?_
        refine zs_iald (r := 2037) (pc := 50) C dX7_sinByChance_50 a_37 (by decide) (by omega) rfl rfl (fun v50 e50 l50 u50 => ?_)
        try simp only [QQ_2037 hZ1, QQ_2037 hZ, Int.reduceToNat] at e50
        try subst v50
        refine zs_aload_n (pc := 51) C dX7_sinByChance_51 rfl ?_
        refine zs_iload_n (pc := 52) C dX7_sinByChance_52 rfl ?_
        refine zVip1 (pc := 53) C dX7_sinByChance_53 v_X7_187 (c_X7_leftBitsOfK hX hZ1 hp) (by decide) (by decide) ⟨Nat.zero_le _, Nat.zero_le _⟩ (Nat.le_of_ble_eq_true rfl) (fun x53 l53 u53 hp53 => ?_)
        have hq53 := hp53
        have hq53b : x53 = wBits W p := hq53
        have hb9 := wBits_in W p
        have hfb := wFree_bits (W := W) hW hT hp
        have hp9 := pc4_in hb9
        have hfi := wFree_in (F := W 12) (p := p) (A 4 0).toNat
        refine zSip1 (pc := 56) C dX7_sinByChance_56 s_X7_217 (c_J6_bitCount_0f7a4K hX (by omega)) (by decide) ⟨Nat.zero_le _, Nat.zero_le _⟩ (Nat.le_of_ble_eq_true rfl) (fun x56 l56 u56 hp56 => ?_)
        have hq56 := hp56
        have hq56b : x56 = pc4 (wBits W p) := by rw [hq56, hq53b]
        first | refine zs_isub (pc := 59) C dX7_sinByChance_59 (by omega) ?_ | refine zs_isubF (pc := 59) C dX7_sinByChance_59 (fun z59 hz591 hz592 => ?_)
        refine zs_istore (pc := 60) C dX7_sinByChance_60 (by decide) ?_
        dsimp only [zset, zclr, znone]
        refine zs_iload (pc := 62) C dX7_sinByChance_62 rfl ?_
        refine zs_if_le (tgt := 82) (pc := 64) C dX7_sinByChance_64 (by decide) (fun h64 => ?_) (fun h64 => ?_)
        · skip
          have hfr : ¬ 0 < wFree (W 12) p (A 4 0).toNat := by omega
          refine zs_iconst (pc := 82) C dX7_sinByChance_82 (by decide) ?_
          exact zs_iret (pc := 83) C hr hlk dX7_sinByChance_83 ⟨by repeat (first | exact zsm_rf | assumption | refine zsm_C (by decide) ?_ | refine zsm_I (by decide) ?_ | refine zsm_J ?_ | refine zsm_c (by assumption) (by decide) ?_), ⟨by unfold wAsk; rw [if_neg hho]; first | (rw [if_pos hfr]; exact hZ70q) | (rw [if_neg hfr]; exact hZ1), by unfold wAskV; rw [if_neg hho]; first | (rw [if_pos hfr, ← hx70, ← hfb, ← hq53b, ← hq56]; exact hq76.1) | rw [if_neg hfr], by omega, by omega⟩⟩
        · skip
          have hfr : 0 < wFree (W 12) p (A 4 0).toNat := by omega
          refine zs_aload_n (pc := 67) C dX7_sinByChance_67 rfl ?_
          refine zs_iload_n (pc := 68) C dX7_sinByChance_68 rfl ?_
          refine zs_aload_n (pc := 69) C dX7_sinByChance_69 rfl ?_
          refine zVi0 (pc := 70) C dX7_sinByChance_70 v_X7_211 (c_X7_drawK hX hZ1 (by show 0 ≤ wD1 W ∧ wD1 W ≤ 2147483647; unfold wD1 wNext; omega)) (by decide) (by decide) ⟨Nat.zero_le _, Nat.zero_le _⟩ (Nat.le_of_ble_eq_true rfl) (fun x70 G70 l70 u70 hp70 => ?_)
          obtain ⟨hz70, hq70⟩ := hp70
          have hZ70 := hq70.1
          have hX70 := hq70.2
          have hZ70q : QQ Γ w t A (up W 21 0 (wNext (wD1 W))) G70 := (by rw [← hw1, ← up_up (u := wD1 W)]; exact hZ70)
          have hx70 := hX70.1
          rw [hw1] at hx70
          have hd9 := hX70.2
          refine zs_iload (pc := 73) C dX7_sinByChance_73 rfl ?_
          first | refine zs_irem (pc := 75) C dX7_sinByChance_75 (by omega) (by omega) (fun hz751 hz752 => ?_) | refine zs_iremF (pc := 75) C dX7_sinByChance_75 (by omega) (fun z75 hz751 hz752 => ?_)
          refine zVip2 (pc := 76) C dX7_sinByChance_76 v_X7_222 (c_X7_freeSinK hX hZ70 hp hT) (by decide) (by decide) ⟨Nat.zero_le _, Nat.zero_le _⟩ (Nat.le_of_ble_eq_true rfl) (fun x76 l76 u76 hp76 => ?_)
          have hq76 := hp76
          refine zs_goto (tgt := 83) (pc := 79) C dX7_sinByChance_79 (by decide) ?_
          exact zs_iret (pc := 83) C hr hlk dX7_sinByChance_83 ⟨by repeat (first | exact zsm_rf | assumption | refine zsm_C (by decide) ?_ | refine zsm_I (by decide) ?_ | refine zsm_J ?_ | refine zsm_c (by assumption) (by decide) ?_), ⟨by unfold wAsk; rw [if_neg hho]; first | (rw [if_pos hfr]; exact hZ70q) | (rw [if_neg hfr]; exact hZ1), by unfold wAskV; rw [if_neg hho]; first | (rw [if_pos hfr, ← hx70, ← hfb, ← hq53b, ← hq56]; exact hq76.1) | rw [if_neg hfr], by omega, by omega⟩⟩
      · skip
        have hho : wHon A W p := ⟨by omega, by omega⟩
        refine zs_iload_n (pc := 40) C dX7_sinByChance_40 rfl ?_
        exact zs_iret (pc := 41) C hr hlk dX7_sinByChance_41 ⟨by repeat (first | exact zsm_rf | assumption | refine zsm_C (by decide) ?_ | refine zsm_I (by decide) ?_ | refine zsm_J ?_ | refine zsm_c (by assumption) (by decide) ?_), ⟨by unfold wAsk; rw [if_pos hho]; exact hZ1, by unfold wAskV; rw [if_pos hho]; exact hq27b, by omega, by omega⟩⟩
  · skip
    refine zs_iconst (pc := 19) C dX7_sinByChance_19 (by decide) ?_
    refine zs_goto (tgt := 24) (pc := 20) C dX7_sinByChance_20 (by decide) ?_
    refine zs_istore_n (pc := 24) C dX7_sinByChance_24 (by decide) ?_
    dsimp only [zset, zclr, znone]
    refine zs_aload_n (pc := 25) C dX7_sinByChance_25 rfl ?_
    refine zs_iload_n (pc := 26) C dX7_sinByChance_26 rfl ?_
    refine zVip1 (pc := 27) C dX7_sinByChance_27 v_X7_214 (c_X7_worstLeftK hX hZ1 hp hT) (by decide) (by decide) ⟨Nat.zero_le _, Nat.zero_le _⟩ (Nat.le_of_ble_eq_true rfl) (fun x27 l27 u27 hp27 => ?_)
    have hq27 := hp27
    have hq27b : x27 = wWorst A (W 12) p (A 4 0).toNat := hq27.1
    refine zs_istore_n (pc := 30) C dX7_sinByChance_30 (by decide) ?_
    dsimp only [zset, zclr, znone]
    refine zs_iload_n (pc := 31) C dX7_sinByChance_31 rfl ?_
    refine zs_if_eq (tgt := 42) (pc := 32) C dX7_sinByChance_32 (by decide) (fun h32 => ?_) (fun h32 => ?_)
    · skip
      have hho : ¬ wHon A W p := fun q => by have q1 := q.1; have q2 := q.2; omega
      refine zs_aload_n (pc := 42) C dX7_sinByChance_42 rfl ?_
      refine zs_getd (r := 800) (pc := 43) C dX7_sinByChance_43 w_X7_40 f_8_0 (by decide) rfl (fun v43 e43 t43 => ?_)
      try simp only [hz1.2, zuI_1, zuI_2, zuJ_1, zuJ_2, zuJ_3, zuP_1, zuP_2, zuP_3, zuC_1, zuC_2, reduceIte, Nat.reduceEqDiff, false_and, and_false, true_and, and_true, and_self, or_true, true_or, or_false, false_or] at e43
      rw [hI] at e43
      subst v43
      refine zs_getf (pc := 46) C dX7_sinByChance_46 w_X7_95 f_6_2 (by decide) ?_
      refine zs_iconst (pc := 49) C dX7_sinByChance_49 (by decide) ?_
      refine zs_iald (r := 2037) (pc := 50) C dX7_sinByChance_50 a_37 (by decide) (by omega) rfl rfl (fun v50 e50 l50 u50 => ?_)
      try simp only [QQ_2037 hZ1, QQ_2037 hZ, Int.reduceToNat] at e50
      try subst v50
      refine zs_aload_n (pc := 51) C dX7_sinByChance_51 rfl ?_
      refine zs_iload_n (pc := 52) C dX7_sinByChance_52 rfl ?_
      refine zVip1 (pc := 53) C dX7_sinByChance_53 v_X7_187 (c_X7_leftBitsOfK hX hZ1 hp) (by decide) (by decide) ⟨Nat.zero_le _, Nat.zero_le _⟩ (Nat.le_of_ble_eq_true rfl) (fun x53 l53 u53 hp53 => ?_)
      have hq53 := hp53
      have hq53b : x53 = wBits W p := hq53
      have hb9 := wBits_in W p
      have hfb := wFree_bits (W := W) hW hT hp
      have hp9 := pc4_in hb9
      have hfi := wFree_in (F := W 12) (p := p) (A 4 0).toNat
      refine zSip1 (pc := 56) C dX7_sinByChance_56 s_X7_217 (c_J6_bitCount_0f7a4K hX (by omega)) (by decide) ⟨Nat.zero_le _, Nat.zero_le _⟩ (Nat.le_of_ble_eq_true rfl) (fun x56 l56 u56 hp56 => ?_)
      have hq56 := hp56
      have hq56b : x56 = pc4 (wBits W p) := by rw [hq56, hq53b]
      first | refine zs_isub (pc := 59) C dX7_sinByChance_59 (by omega) ?_ | refine zs_isubF (pc := 59) C dX7_sinByChance_59 (fun z59 hz591 hz592 => ?_)
      refine zs_istore (pc := 60) C dX7_sinByChance_60 (by decide) ?_
      dsimp only [zset, zclr, znone]
      refine zs_iload (pc := 62) C dX7_sinByChance_62 rfl ?_
      refine zs_if_le (tgt := 82) (pc := 64) C dX7_sinByChance_64 (by decide) (fun h64 => ?_) (fun h64 => ?_)
      · skip
        have hfr : ¬ 0 < wFree (W 12) p (A 4 0).toNat := by omega
        refine zs_iconst (pc := 82) C dX7_sinByChance_82 (by decide) ?_
        exact zs_iret (pc := 83) C hr hlk dX7_sinByChance_83 ⟨by repeat (first | exact zsm_rf | assumption | refine zsm_C (by decide) ?_ | refine zsm_I (by decide) ?_ | refine zsm_J ?_ | refine zsm_c (by assumption) (by decide) ?_), ⟨by unfold wAsk; rw [if_neg hho]; first | (rw [if_pos hfr]; exact hZ70q) | (rw [if_neg hfr]; exact hZ1), by unfold wAskV; rw [if_neg hho]; first | (rw [if_pos hfr, ← hx70, ← hfb, ← hq53b, ← hq56]; exact hq76.1) | rw [if_neg hfr], by omega, by omega⟩⟩
      · skip
        have hfr : 0 < wFree (W 12) p (A 4 0).toNat := by omega
        refine zs_aload_n (pc := 67) C dX7_sinByChance_67 rfl ?_
        refine zs_iload_n (pc := 68) C dX7_sinByChance_68 rfl ?_
        refine zs_aload_n (pc := 69) C dX7_sinByChance_69 rfl ?_
        refine zVi0 (pc := 70) C dX7_sinByChance_70 v_X7_211 (c_X7_drawK hX hZ1 (by show 0 ≤ wD1 W ∧ wD1 W ≤ 2147483647; unfold wD1 wNext; omega)) (by decide) (by decide) ⟨Nat.zero_le _, Nat.zero_le _⟩ (Nat.le_of_ble_eq_true rfl) (fun x70 G70 l70 u70 hp70 => ?_)
        obtain ⟨hz70, hq70⟩ := hp70
        have hZ70 := hq70.1
        have hX70 := hq70.2
        have hZ70q : QQ Γ w t A (up W 21 0 (wNext (wD1 W))) G70 := (by rw [← hw1, ← up_up (u := wD1 W)]; exact hZ70)
        have hx70 := hX70.1
        rw [hw1] at hx70
        have hd9 := hX70.2
        refine zs_iload (pc := 73) C dX7_sinByChance_73 rfl ?_
        first | refine zs_irem (pc := 75) C dX7_sinByChance_75 (by omega) (by omega) (fun hz751 hz752 => ?_) | refine zs_iremF (pc := 75) C dX7_sinByChance_75 (by omega) (fun z75 hz751 hz752 => ?_)
        refine zVip2 (pc := 76) C dX7_sinByChance_76 v_X7_222 (c_X7_freeSinK hX hZ70 hp hT) (by decide) (by decide) ⟨Nat.zero_le _, Nat.zero_le _⟩ (Nat.le_of_ble_eq_true rfl) (fun x76 l76 u76 hp76 => ?_)
        have hq76 := hp76
        refine zs_goto (tgt := 83) (pc := 79) C dX7_sinByChance_79 (by decide) ?_
        exact zs_iret (pc := 83) C hr hlk dX7_sinByChance_83 ⟨by repeat (first | exact zsm_rf | assumption | refine zsm_C (by decide) ?_ | refine zsm_I (by decide) ?_ | refine zsm_J ?_ | refine zsm_c (by assumption) (by decide) ?_), ⟨by unfold wAsk; rw [if_neg hho]; first | (rw [if_pos hfr]; exact hZ70q) | (rw [if_neg hfr]; exact hZ1), by unfold wAskV; rw [if_neg hho]; first | (rw [if_pos hfr, ← hx70, ← hfb, ← hq53b, ← hq56]; exact hq76.1) | rw [if_neg hfr], by omega, by omega⟩⟩
    · skip
      refine zs_iload_n (pc := 35) C dX7_sinByChance_35 rfl ?_
      refine zs_iconst (pc := 36) C dX7_sinByChance_36 (by decide) ?_
      refine zs_icmp_eq (tgt := 42) (pc := 37) C dX7_sinByChance_37 (by decide) (fun h37 => ?_) (fun h37 => ?_)
      · skip
        have hho : ¬ wHon A W p := fun q => by have q1 := q.1; have q2 := q.2; omega
        refine zs_aload_n (pc := 42) C dX7_sinByChance_42 rfl ?_
        refine zs_getd (r := 800) (pc := 43) C dX7_sinByChance_43 w_X7_40 f_8_0 (by decide) rfl (fun v43 e43 t43 => ?_)
        try simp only [hz1.2, zuI_1, zuI_2, zuJ_1, zuJ_2, zuJ_3, zuP_1, zuP_2, zuP_3, zuC_1, zuC_2, reduceIte, Nat.reduceEqDiff, false_and, and_false, true_and, and_true, and_self, or_true, true_or, or_false, false_or] at e43
        rw [hI] at e43
        subst v43
        refine zs_getf (pc := 46) C dX7_sinByChance_46 w_X7_95 f_6_2 (by decide) ?_
        refine zs_iconst (pc := 49) C dX7_sinByChance_49 (by decide) ?_
        refine zs_iald (r := 2037) (pc := 50) C dX7_sinByChance_50 a_37 (by decide) (by omega) rfl rfl (fun v50 e50 l50 u50 => ?_)
        try simp only [QQ_2037 hZ1, QQ_2037 hZ, Int.reduceToNat] at e50
        try subst v50
        refine zs_aload_n (pc := 51) C dX7_sinByChance_51 rfl ?_
        refine zs_iload_n (pc := 52) C dX7_sinByChance_52 rfl ?_
        refine zVip1 (pc := 53) C dX7_sinByChance_53 v_X7_187 (c_X7_leftBitsOfK hX hZ1 hp) (by decide) (by decide) ⟨Nat.zero_le _, Nat.zero_le _⟩ (Nat.le_of_ble_eq_true rfl) (fun x53 l53 u53 hp53 => ?_)
        have hq53 := hp53
        have hq53b : x53 = wBits W p := hq53
        have hb9 := wBits_in W p
        have hfb := wFree_bits (W := W) hW hT hp
        have hp9 := pc4_in hb9
        have hfi := wFree_in (F := W 12) (p := p) (A 4 0).toNat
        refine zSip1 (pc := 56) C dX7_sinByChance_56 s_X7_217 (c_J6_bitCount_0f7a4K hX (by omega)) (by decide) ⟨Nat.zero_le _, Nat.zero_le _⟩ (Nat.le_of_ble_eq_true rfl) (fun x56 l56 u56 hp56 => ?_)
        have hq56 := hp56
        have hq56b : x56 = pc4 (wBits W p) := by rw [hq56, hq53b]
        first | refine zs_isub (pc := 59) C dX7_sinByChance_59 (by omega) ?_ | refine zs_isubF (pc := 59) C dX7_sinByChance_59 (fun z59 hz591 hz592 => ?_)
        refine zs_istore (pc := 60) C dX7_sinByChance_60 (by decide) ?_
        dsimp only [zset, zclr, znone]
        refine zs_iload (pc := 62) C dX7_sinByChance_62 rfl ?_
        refine zs_if_le (tgt := 82) (pc := 64) C dX7_sinByChance_64 (by decide) (fun h64 => ?_) (fun h64 => ?_)
        · skip
          have hfr : ¬ 0 < wFree (W 12) p (A 4 0).toNat := by omega
          refine zs_iconst (pc := 82) C dX7_sinByChance_82 (by decide) ?_
          exact zs_iret (pc := 83) C hr hlk dX7_sinByChance_83 ⟨by repeat (first | exact zsm_rf | assumption | refine zsm_C (by decide) ?_ | refine zsm_I (by decide) ?_ | refine zsm_J ?_ | refine zsm_c (by assumption) (by decide) ?_), ⟨by unfold wAsk; rw [if_neg hho]; first | (rw [if_pos hfr]; exact hZ70q) | (rw [if_neg hfr]; exact hZ1), by unfold wAskV; rw [if_neg hho]; first | (rw [if_pos hfr, ← hx70, ← hfb, ← hq53b, ← hq56]; exact hq76.1) | rw [if_neg hfr], by omega, by omega⟩⟩
        · skip
          have hfr : 0 < wFree (W 12) p (A 4 0).toNat := by omega
          refine zs_aload_n (pc := 67) C dX7_sinByChance_67 rfl ?_
          refine zs_iload_n (pc := 68) C dX7_sinByChance_68 rfl ?_
          refine zs_aload_n (pc := 69) C dX7_sinByChance_69 rfl ?_
          refine zVi0 (pc := 70) C dX7_sinByChance_70 v_X7_211 (c_X7_drawK hX hZ1 (by show 0 ≤ wD1 W ∧ wD1 W ≤ 2147483647; unfold wD1 wNext; omega)) (by decide) (by decide) ⟨Nat.zero_le _, Nat.zero_le _⟩ (Nat.le_of_ble_eq_true rfl) (fun x70 G70 l70 u70 hp70 => ?_)
          obtain ⟨hz70, hq70⟩ := hp70
          have hZ70 := hq70.1
          have hX70 := hq70.2
          have hZ70q : QQ Γ w t A (up W 21 0 (wNext (wD1 W))) G70 := (by rw [← hw1, ← up_up (u := wD1 W)]; exact hZ70)
          have hx70 := hX70.1
          rw [hw1] at hx70
          have hd9 := hX70.2
          refine zs_iload (pc := 73) C dX7_sinByChance_73 rfl ?_
          first | refine zs_irem (pc := 75) C dX7_sinByChance_75 (by omega) (by omega) (fun hz751 hz752 => ?_) | refine zs_iremF (pc := 75) C dX7_sinByChance_75 (by omega) (fun z75 hz751 hz752 => ?_)
          refine zVip2 (pc := 76) C dX7_sinByChance_76 v_X7_222 (c_X7_freeSinK hX hZ70 hp hT) (by decide) (by decide) ⟨Nat.zero_le _, Nat.zero_le _⟩ (Nat.le_of_ble_eq_true rfl) (fun x76 l76 u76 hp76 => ?_)
          have hq76 := hp76
          refine zs_goto (tgt := 83) (pc := 79) C dX7_sinByChance_79 (by decide) ?_
          exact zs_iret (pc := 83) C hr hlk dX7_sinByChance_83 ⟨by repeat (first | exact zsm_rf | assumption | refine zsm_C (by decide) ?_ | refine zsm_I (by decide) ?_ | refine zsm_J ?_ | refine zsm_c (by assumption) (by decide) ?_), ⟨by unfold wAsk; rw [if_neg hho]; first | (rw [if_pos hfr]; exact hZ70q) | (rw [if_neg hfr]; exact hZ1), by unfold wAskV; rw [if_neg hho]; first | (rw [if_pos hfr, ← hx70, ← hfb, ← hq53b, ← hq56]; exact hq76.1) | rw [if_neg hfr], by omega, by omega⟩⟩
      · skip
        have hho : wHon A W p := ⟨by omega, by omega⟩
        refine zs_iload_n (pc := 40) C dX7_sinByChance_40 rfl ?_
        exact zs_iret (pc := 41) C hr hlk dX7_sinByChance_41 ⟨by repeat (first | exact zsm_rf | assumption | refine zsm_C (by decide) ?_ | refine zsm_I (by decide) ?_ | refine zsm_J ?_ | refine zsm_c (by assumption) (by decide) ?_), ⟨by unfold wAsk; rw [if_pos hho]; exact hZ1, by unfold wAskV; rw [if_pos hho]; exact hq27b, by omega, by omega⟩⟩
end
section
set_option maxHeartbeats 4000000 in
set_option maxRecDepth 100000 in
theorem c_X7_grindOneK {l : Launch} {Γ : zΓ} {G : zH} {w t : Nat} {A W : aS} {p s wr : Int} (hX : zXs Γ) (hZ : QQ Γ w t A W G) (hW : WI A W) (hT : TA A) (hp : 0 ≤ p ∧ p ≤ 4) (hs : 0 ≤ s ∧ s ≤ 3) (hps : p < A 4 1 ∧ s < A 4 0) (hwr : wr = 0 ∨ wr = 1)  : zMet l Γ yX7_grindOne cX7_grindOne 5 none 3 [zr 8 w, zi p, zi s, zi wr] G (zpv (fun G' => zsm [510, 2026, 2027, 2028, 2029, 2030, 2031, 2032, 2033, 2034, 2035, 810, 811, 2049, 2050, 2051] G G' ∧ QQ Γ w t A (wGrind A W p s wr) G')) := by
  have hI := QQ_t hZ
  have hll := WI_L hW hp hs
  have h13 := hW.2.2.2.2.1 p.toNat (by omega)
  have h00 := hW.1
  obtain ⟨w18, w19, w20, w21, w22⟩ := hW.2.2.2.2.2
  have hWL := WI_WL hW
  have hlw : wL W p s = W 12 (p * 4 + s).toNat := rfl
  have h1399 := hT.2.2.2.2.2.1
  have hp9 : wPort A W = min (A 13 0) (W 19 0) := rfl
  refine zMet_of RX7 hX (by decide) rfl (Nat.le_of_ble_eq_true rfl) ?_
  intro px9 e sx9 m args below meth c C hr hlk
  show Z px9 l e (zrm 3) sx9 m args below meth c Γ 5 0 0 (MQ below (zQc Γ (zpv (fun G' => zsm [510, 2026, 2027, 2028, 2029, 2030, 2031, 2032, 2033, 2034, 2035, 810, 811, 2049, 2050, 2051] G G' ∧ QQ Γ w t A (wGrind A W p s wr) G'))) args sx9 0 0 (zA Γ)) 0 [some (zr 8 w), some (zi p), some (zi s), some (zi wr), none] [] G
  refine zs_loc 1 rfl (fun ha1 hb1 => ?_)
  refine zs_loc 2 rfl (fun ha2 hb2 => ?_)
  refine zs_loc 3 rfl (fun ha3 hb3 => ?_)
  refine zs_aload_n (pc := 0) C dX7_grindOne_0 rfl ?_
  refine zVip0 (pc := 1) C dX7_grindOne_1 v_X7_171 (c_X7_canGrindK hX hZ) (by decide) (by decide) ⟨Nat.zero_le _, Nat.zero_le _⟩ (Nat.le_of_ble_eq_true rfl) (fun x1 l1 u1 hp1 => ?_)
  have hq1 := hp1
  refine zs_if_ne (tgt := 8) (pc := 4) C dX7_grindOne_4 (by decide) (fun h4 => ?_) (fun h4 => ?_)
  · skip
    have hcan : wCan W := hq1.2.mp (by omega)
    obtain ⟨hc1, hc2⟩ := id hcan
    have hwe : 0 ≤ wWear A W p s ∧ wWear A W p s ≤ 99 := bV_in (by omega) (by omega)
    refine zs_aload_n (pc := 8) C dX7_grindOne_8 rfl ?_
    have J192 : ∀ (Gz : zH), (zsm [510, 2026, 2027, 2028, 2029, 2030, 2031, 2032, 2033, 2034, 2035, 810, 811, 2049, 2050, 2051] G Gz) → (QQ Γ w t A (up (up (up (up (up (up (up (up (up (up (up (up W 1 (W 0 0).toNat p) 2 (W 0 0).toNat s) 3 (W 0 0).toNat (wFine A W p s)) 4 (W 0 0).toNat (wPort A W)) 5 (W 0 0).toNat (wPort A W)) 6 (W 0 0).toNat (W 13 p.toNat)) 7 (W 0 0).toNat (W 20 0)) 8 (W 0 0).toNat (wPr W p)) 9 (W 0 0).toNat (W 18 0)) 10 (W 0 0).toNat (wBits W p)) 0 0 (W 0 0 + 1)) 19 0 (W 19 0 - wPort A W)) Gz) → (∀ j : Nat, j < 7 → Gz.2.1 2018 (Γ.2.1 (Γ.2.1 t 0) 4) j = wNm A W p s j) → Z px9 l e (zrm 3) sx9 m args below meth c Γ 5 0 0 (MQ below (zQc Γ (zpv (fun G' => zsm [510, 2026, 2027, 2028, 2029, 2030, 2031, 2032, 2033, 2034, 2035, 810, 811, 2049, 2050, 2051] G G' ∧ QQ Γ w t A (wGrind A W p s wr) G'))) args sx9 0 0 (zA Γ)) 192 [some (zr 8 w), some (zi p), some (zi s), some (zi wr), some (zi (W 0 0))] [] Gz := by
      intro Gz h192_0 h192_1 h192_2
      refine zs_aload_n (pc := 192) C dX7_grindOne_192 rfl ?_
      refine zs_iload_n (pc := 193) C dX7_grindOne_193 rfl ?_
      have J218 : ∀ (y1 : Int) (Gy : zH), (y1 = (if wr ≠ 0 then min 99999 (W 20 0 + wWear A W p s) else W 20 0)) → (zsm [510, 2026, 2027, 2028, 2029, 2030, 2031, 2032, 2033, 2034, 2035, 810, 811, 2049, 2050, 2051] G Gy) → (QQ Γ w t A (up (up (up (up (up (up (up (up (up (up (up (up W 1 (W 0 0).toNat p) 2 (W 0 0).toNat s) 3 (W 0 0).toNat (wFine A W p s)) 4 (W 0 0).toNat (wPort A W)) 5 (W 0 0).toNat (wPort A W)) 6 (W 0 0).toNat (W 13 p.toNat)) 7 (W 0 0).toNat (W 20 0)) 8 (W 0 0).toNat (wPr W p)) 9 (W 0 0).toNat (W 18 0)) 10 (W 0 0).toNat (wBits W p)) 0 0 (W 0 0 + 1)) 19 0 (W 19 0 - wPort A W)) Gy) → Z px9 l e (zrm 3) sx9 m args below meth c Γ 5 0 0 (MQ below (zQc Γ (zpv (fun G' => zsm [510, 2026, 2027, 2028, 2029, 2030, 2031, 2032, 2033, 2034, 2035, 810, 811, 2049, 2050, 2051] G G' ∧ QQ Γ w t A (wGrind A W p s wr) G'))) args sx9 0 0 (zA Γ)) 218 [some (zr 8 w), some (zi p), some (zi s), some (zi wr), some (zi (W 0 0))] [zi y1, zr 8 w] Gy := by
        intro y1 Gy h218_0 h218_1 h218_2
        have hy9 : 0 ≤ y1 ∧ y1 ≤ 99999 := by rw [h218_0]; split <;> omega
        skip
        refine zs_puti (r := 811) (pc := 218) C dX7_grindOne_218 w_X7_79 f_8_11 rfl (r_811 0) (by omega) ?_
        refine zs_aload_n (pc := 221) C dX7_grindOne_221 rfl ?_
        refine zs_getf (pc := 222) C dX7_grindOne_222 w_X7_25 f_8_4 (by decide) ?_
        refine zs_iload_n (pc := 225) C dX7_grindOne_225 rfl ?_
        refine zs_dup2 (pc := 226) C dX7_grindOne_226 ?_
        refine zs_iald (r := 2050) (pc := 227) C dX7_grindOne_227 a_50 (by decide) (by omega) rfl (r_2050 _) (fun v227 e227 l227 u227 => ?_)
        try simp only [zuI_1, zuI_2, zuJ_1, zuJ_2, zuJ_3, zuP_1, zuP_2, zuP_3, zuC_1, zuC_2, reduceIte, Nat.reduceEqDiff, false_and, and_false, true_and, and_true, and_self, or_true, true_or, or_false, false_or] at e227
        try simp only [QQ_2050 h218_2] at e227
        try simp (disch := decide) only [up_f, up_fn] at e227
        try subst v227
        refine zs_iconst (pc := 228) C dX7_grindOne_228 (by decide) ?_
        first | refine zs_iadd (pc := 229) C dX7_grindOne_229 (by omega) ?_ | refine zs_iaddF (pc := 229) C dX7_grindOne_229 (fun z229 hz2291 hz2292 => ?_)
        refine zs_iast (r := 2050) (pc := 230) C dX7_grindOne_230 a_50 (by decide) (by omega) rfl (r_2050 _) (by omega) ?_
        refine zs_aload_n (pc := 231) C dX7_grindOne_231 rfl ?_
        refine zs_getf (pc := 232) C dX7_grindOne_232 w_X7_12 f_8_1 (by decide) ?_
        refine zs_iload (pc := 235) C dX7_grindOne_235 rfl ?_
        refine zs_iload_n (pc := 237) C dX7_grindOne_237 rfl ?_
        refine zVip2 (pc := 238) C dX7_grindOne_238 v_X7_141 (c_X4_lieByK hX (by with_reducible repeat (first | assumption | apply QQw_510 | apply QQw_2026 | apply QQw_2027 | apply QQw_2028 | apply QQw_2029 | apply QQw_2030 | apply QQw_2031 | apply QQw_2032 | apply QQw_2033 | apply QQw_2034 | apply QQw_2035 | apply QQw_2048 | apply QQw_2049 | apply QQw_2050 | apply QQw_2051 | apply QQw_2052 | apply QQw_2053 | apply QQw_2054 | apply QQw_809 | apply QQw_810 | apply QQw_811 | apply QQw_812 | apply QQw_813 | apply QQ_J | refine QQ_n (by assumption) ?_ | refine QQ_sm (by assumption) (by decide) (by decide +kernel) ?_)) (by omega)) (by decide) (by decide) ⟨Nat.zero_le _, Nat.zero_le _⟩ (Nat.le_of_ble_eq_true rfl) (fun x238 l238 u238 hp238 => ?_)
        have hq238 := hp238
        try simp only [zuI_1, zuI_2, zuJ_1, zuJ_2, zuJ_3, zuP_1, zuP_2, zuP_3, zuC_1, zuC_2, reduceIte, Nat.reduceEqDiff, false_and, and_false, true_and, and_true, and_self, or_true, true_or, or_false, false_or] at hq238
        have hl238 : (x238 = 0 ↔ 0 < wL W p s) ∧ (x238 = 0 ∨ x238 = 1) := by rw [hq238]; exact wLie_b (by simp (disch := decide) only [up_f, up_eq]) hp hs
        refine zs_if_ne (tgt := 261) (pc := 241) C dX7_grindOne_241 (by decide) (fun h241 => ?_) (fun h241 => ?_)
        · skip
          refine zs_aload_n (pc := 261) C dX7_grindOne_261 rfl ?_
          refine zs_getf (pc := 262) C dX7_grindOne_262 w_X7_28 f_8_5 (by decide) ?_
          refine zs_iload_n (pc := 265) C dX7_grindOne_265 rfl ?_
          refine zs_dup2 (pc := 266) C dX7_grindOne_266 ?_
          refine zs_iald (r := 2051) (pc := 267) C dX7_grindOne_267 a_51 (by decide) (by omega) rfl (r_2051 _) (fun v267 e267 l267 u267 => ?_)
          try simp only [zuI_1, zuI_2, zuJ_1, zuJ_2, zuJ_3, zuP_1, zuP_2, zuP_3, zuC_1, zuC_2, reduceIte, Nat.reduceEqDiff, false_and, and_false, true_and, and_true, and_self, or_true, true_or, or_false, false_or] at e267
          try simp only [QQ_2051 h218_2] at e267
          try simp (disch := decide) only [up_f, up_fn] at e267
          try subst v267
          refine zs_iconst (pc := 268) C dX7_grindOne_268 (by decide) ?_
          first | refine zs_iadd (pc := 269) C dX7_grindOne_269 (by omega) ?_ | refine zs_iaddF (pc := 269) C dX7_grindOne_269 (fun z269 hz2691 hz2692 => ?_)
          refine zs_iast (r := 2051) (pc := 270) C dX7_grindOne_270 a_51 (by decide) (by omega) rfl (r_2051 _) (by omega) ?_
          exact zs_vret (pc := 271) C hr hlk dX7_grindOne_271 ⟨by repeat (first | exact zsm_rf | assumption | refine zsm_C (by decide) ?_ | refine zsm_I (by decide) ?_ | refine zsm_J ?_ | refine zsm_c (by assumption) (by decide) ?_), (by unfold wGrind wGr1 wSack; rw [if_pos hcan, hlw, ← h218_0]; first | (rw [if_pos (show 0 < W 12 (p * 4 + s).toNat by omega)]; with_reducible repeat (first | assumption | apply QQw_510 | apply QQw_2026 | apply QQw_2027 | apply QQw_2028 | apply QQw_2029 | apply QQw_2030 | apply QQw_2031 | apply QQw_2032 | apply QQw_2033 | apply QQw_2034 | apply QQw_2035 | apply QQw_2048 | apply QQw_2049 | apply QQw_2050 | apply QQw_2051 | apply QQw_2052 | apply QQw_2053 | apply QQw_2054 | apply QQw_809 | apply QQw_810 | apply QQw_811 | apply QQw_812 | apply QQw_813 | apply QQ_J | refine QQ_n (by assumption) ?_ | refine QQ_sm (by assumption) (by decide) (by decide +kernel) ?_)) | (rw [if_neg (show ¬ 0 < W 12 (p * 4 + s).toNat by omega)]; with_reducible repeat (first | assumption | apply QQw_510 | apply QQw_2026 | apply QQw_2027 | apply QQw_2028 | apply QQw_2029 | apply QQw_2030 | apply QQw_2031 | apply QQw_2032 | apply QQw_2033 | apply QQw_2034 | apply QQw_2035 | apply QQw_2048 | apply QQw_2049 | apply QQw_2050 | apply QQw_2051 | apply QQw_2052 | apply QQw_2053 | apply QQw_2054 | apply QQw_809 | apply QQw_810 | apply QQw_811 | apply QQw_812 | apply QQw_813 | apply QQ_J | refine QQ_n (by assumption) ?_ | refine QQ_sm (by assumption) (by decide) (by decide +kernel) ?_)))⟩
        · skip
          refine zs_aload_n (pc := 244) C dX7_grindOne_244 rfl ?_
          refine zs_getf (pc := 245) C dX7_grindOne_245 w_X7_22 f_8_3 (by decide) ?_
          refine zs_iload_n (pc := 248) C dX7_grindOne_248 rfl ?_
          refine zs_iconst (pc := 249) C dX7_grindOne_249 (by decide) ?_
          first | refine zs_imul (pc := 250) C dX7_grindOne_250 (by omega) ?_ | refine zs_imulF (pc := 250) C dX7_grindOne_250 (fun z250 hz2501 hz2502 => ?_)
          refine zs_iload_n (pc := 251) C dX7_grindOne_251 rfl ?_
          first | refine zs_iadd (pc := 252) C dX7_grindOne_252 (by omega) ?_ | refine zs_iaddF (pc := 252) C dX7_grindOne_252 (fun z252 hz2521 hz2522 => ?_)
          refine zs_dup2 (pc := 253) C dX7_grindOne_253 ?_
          refine zs_iald (r := 2049) (pc := 254) C dX7_grindOne_254 a_49 (by decide) (by omega) rfl (r_2049 _) (fun v254 e254 l254 u254 => ?_)
          try simp only [zuI_1, zuI_2, zuJ_1, zuJ_2, zuJ_3, zuP_1, zuP_2, zuP_3, zuC_1, zuC_2, reduceIte, Nat.reduceEqDiff, false_and, and_false, true_and, and_true, and_self, or_true, true_or, or_false, false_or] at e254
          try simp only [QQ_2049 h218_2] at e254
          try simp (disch := decide) only [up_f, up_fn] at e254
          try subst v254
          refine zs_iconst (pc := 255) C dX7_grindOne_255 (by decide) ?_
          first | refine zs_isub (pc := 256) C dX7_grindOne_256 (by omega) ?_ | refine zs_isubF (pc := 256) C dX7_grindOne_256 (fun z256 hz2561 hz2562 => ?_)
          refine zs_iast (r := 2049) (pc := 257) C dX7_grindOne_257 a_49 (by decide) (by omega) rfl (r_2049 _) (by omega) ?_
          refine zs_goto (tgt := 271) (pc := 258) C dX7_grindOne_258 (by decide) ?_
          exact zs_vret (pc := 271) C hr hlk dX7_grindOne_271 ⟨by repeat (first | exact zsm_rf | assumption | refine zsm_C (by decide) ?_ | refine zsm_I (by decide) ?_ | refine zsm_J ?_ | refine zsm_c (by assumption) (by decide) ?_), (by unfold wGrind wGr1 wSack; rw [if_pos hcan, hlw, ← h218_0]; first | (rw [if_pos (show 0 < W 12 (p * 4 + s).toNat by omega)]; with_reducible repeat (first | assumption | apply QQw_510 | apply QQw_2026 | apply QQw_2027 | apply QQw_2028 | apply QQw_2029 | apply QQw_2030 | apply QQw_2031 | apply QQw_2032 | apply QQw_2033 | apply QQw_2034 | apply QQw_2035 | apply QQw_2048 | apply QQw_2049 | apply QQw_2050 | apply QQw_2051 | apply QQw_2052 | apply QQw_2053 | apply QQw_2054 | apply QQw_809 | apply QQw_810 | apply QQw_811 | apply QQw_812 | apply QQw_813 | apply QQ_J | refine QQ_n (by assumption) ?_ | refine QQ_sm (by assumption) (by decide) (by decide +kernel) ?_)) | (rw [if_neg (show ¬ 0 < W 12 (p * 4 + s).toNat by omega)]; with_reducible repeat (first | assumption | apply QQw_510 | apply QQw_2026 | apply QQw_2027 | apply QQw_2028 | apply QQw_2029 | apply QQw_2030 | apply QQw_2031 | apply QQw_2032 | apply QQw_2033 | apply QQw_2034 | apply QQw_2035 | apply QQw_2048 | apply QQw_2049 | apply QQw_2050 | apply QQw_2051 | apply QQw_2052 | apply QQw_2053 | apply QQw_2054 | apply QQw_809 | apply QQw_810 | apply QQw_811 | apply QQw_812 | apply QQw_813 | apply QQ_J | refine QQ_n (by assumption) ?_ | refine QQ_sm (by assumption) (by decide) (by decide +kernel) ?_)))⟩
      refine zs_if_eq (tgt := 214) (pc := 194) C dX7_grindOne_194 (by decide) (fun h194 => ?_) (fun h194 => ?_)
      · skip
        refine zs_aload_n (pc := 214) C dX7_grindOne_214 rfl ?_
        refine zs_geti (r := 811) (pc := 215) C dX7_grindOne_215 w_X7_79 f_8_11 rfl (r_811 0) (fun v215 e215 l215 u215 => ?_)
        try simp only [QQ_811 h192_1] at e215
        try simp (disch := decide) only [up_f, up_fn] at e215
        try subst v215
        exact zs_wk (J218 _ _ (by split <;> first | omega | (exfalso; omega)) (by repeat (first | exact zsm_rf | assumption | refine zsm_C (by decide) ?_ | refine zsm_I (by decide) ?_ | refine zsm_J ?_ | refine zsm_c (by assumption) (by decide) ?_)) (by first | exact hZ204b | exact h192_1)) (zwk_s rfl (zwk_s rfl (zwk_s rfl (zwk_s rfl (zwk_s rfl zwk_0)))))
      · skip
        refine zs_ldc (n := 99999) (pc := 197) C dX7_grindOne_197 q_X7_190 (by decide) (by decide) ?_
        refine zs_aload_n (pc := 199) C dX7_grindOne_199 rfl ?_
        refine zs_geti (r := 811) (pc := 200) C dX7_grindOne_200 w_X7_79 f_8_11 rfl (r_811 0) (fun v200 e200 l200 u200 => ?_)
        try simp only [QQ_811 h192_1] at e200
        try simp (disch := decide) only [up_f, up_fn] at e200
        try subst v200
        refine zs_aload_n (pc := 203) C dX7_grindOne_203 rfl ?_
        refine zVi0 (pc := 204) C dX7_grindOne_204 v_X7_191 (c_X7_wearHereK (nm := wNm A W p s) hX h192_1 hT.2.2.2.2.2.2 h192_2 (wNm_in hT hW hp hs hps)) (by decide) (by decide) ⟨Nat.zero_le _, Nat.zero_le _⟩ (Nat.le_of_ble_eq_true rfl) (fun x204 G204 l204 u204 hp204 => ?_)
        obtain ⟨hz204, hq204⟩ := hp204
        have hx204 : x204 = wWear A W p s := hq204
        have hZ204b := QQ_n hz204 h192_1
        first | refine zs_iadd (pc := 207) C dX7_grindOne_207 (by omega) ?_ | refine zs_iaddF (pc := 207) C dX7_grindOne_207 (fun z207 hz2071 hz2072 => ?_)
        refine zs_minI (pc := 208) C dX7_grindOne_208 s_X7_149 (by decide) (Nat.le_of_ble_eq_true rfl) ⟨Nat.zero_le _, Nat.zero_le _⟩ (fun z208 hz208 => ?_)
        refine zs_goto (tgt := 218) (pc := 211) C dX7_grindOne_211 (by decide) ?_
        exact zs_wk (J218 _ _ (by split <;> first | omega | (exfalso; omega)) (by repeat (first | exact zsm_rf | assumption | refine zsm_C (by decide) ?_ | refine zsm_I (by decide) ?_ | refine zsm_J ?_ | refine zsm_c (by assumption) (by decide) ?_)) (by first | exact hZ204b | exact h192_1)) (zwk_s rfl (zwk_s rfl (zwk_s rfl (zwk_s rfl (zwk_s rfl zwk_0)))))
    refine zs_getf (pc := 9) C dX7_grindOne_9 w_X7_12 f_8_1 (by decide) ?_
    refine zs_geti (r := 510) (pc := 12) C dX7_grindOne_12 w_X7_48 f_5_10 rfl (r_510 0) (fun v12 e12 l12 u12 => ?_)
    try simp only [QQ_510 hZ] at e12
    try simp (disch := decide) only [up_f, up_fn] at e12
    try subst v12
    refine zs_istore (pc := 15) C dX7_grindOne_15 (by decide) ?_
    dsimp only [zset, zclr, znone]
    refine zs_aload_n (pc := 17) C dX7_grindOne_17 rfl ?_
    refine zs_iload_n (pc := 18) C dX7_grindOne_18 rfl ?_
    refine zs_iload_n (pc := 19) C dX7_grindOne_19 rfl ?_
    refine zVv2 (pc := 20) C dX7_grindOne_20 v_X7_122 (c_X7_setNamesK hX hZ hW hp hs) (by decide) (by decide) ⟨Nat.zero_le _, Nat.zero_le _⟩ (Nat.le_of_ble_eq_true rfl) (fun G20 hp20 => ?_)
    obtain ⟨hz20, hq20⟩ := hp20
    first | have hZ20 := QQ_n hz20 hZ | have hZ20 := QQ_n hz20 hZ1
    refine zs_aload_n (pc := 23) C dX7_grindOne_23 rfl ?_
    refine zs_getf (pc := 24) C dX7_grindOne_24 w_X7_12 f_8_1 (by decide) ?_
    refine zs_getf (pc := 27) C dX7_grindOne_27 w_X7_144 f_5_0 (by decide) ?_
    refine zs_iload (pc := 30) C dX7_grindOne_30 rfl ?_
    refine zs_iload_n (pc := 32) C dX7_grindOne_32 rfl ?_
    refine zs_iast (r := 2026) (pc := 33) C dX7_grindOne_33 a_26 (by decide) (by omega) rfl (r_2026 _) (by omega) ?_
    refine zs_aload_n (pc := 34) C dX7_grindOne_34 rfl ?_
    refine zs_getf (pc := 35) C dX7_grindOne_35 w_X7_12 f_8_1 (by decide) ?_
    refine zs_getf (pc := 38) C dX7_grindOne_38 w_X7_154 f_5_1 (by decide) ?_
    refine zs_iload (pc := 41) C dX7_grindOne_41 rfl ?_
    refine zs_iload_n (pc := 43) C dX7_grindOne_43 rfl ?_
    refine zs_iast (r := 2027) (pc := 44) C dX7_grindOne_44 a_27 (by decide) (by omega) rfl (r_2027 _) (by omega) ?_
    refine zs_aload_n (pc := 45) C dX7_grindOne_45 rfl ?_
    refine zs_getf (pc := 46) C dX7_grindOne_46 w_X7_12 f_8_1 (by decide) ?_
    refine zs_getf (pc := 49) C dX7_grindOne_49 w_X7_161 f_5_2 (by decide) ?_
    refine zs_iload (pc := 52) C dX7_grindOne_52 rfl ?_
    refine zs_aload_n (pc := 54) C dX7_grindOne_54 rfl ?_
    refine zs_getd (r := 800) (pc := 55) C dX7_grindOne_55 w_X7_40 f_8_0 (by decide) rfl (fun v55 e55 t55 => ?_)
    try simp only [hz20.2, zuI_1, zuI_2, zuJ_1, zuJ_2, zuJ_3, zuP_1, zuP_2, zuP_3, zuC_1, zuC_2, reduceIte, Nat.reduceEqDiff, false_and, and_false, true_and, and_true, and_self, or_true, true_or, or_false, false_or] at e55
    rw [hI] at e55
    subst v55
    refine zs_iconst (pc := 58) C dX7_grindOne_58 (by decide) ?_
    refine zs_iload_n (pc := 59) C dX7_grindOne_59 rfl ?_
    refine zVi2 (pc := 60) C dX7_grindOne_60 v_X7_132 (c_X5_finenessK (nm := wNm A W p s) hX ((show QQ Γ w t A (up (up W 1 (W 0 0).toNat p) 2 (W 0 0).toNat s) _ from (by with_reducible repeat (first | assumption | apply QQw_510 | apply QQw_2026 | apply QQw_2027 | apply QQw_2028 | apply QQw_2029 | apply QQw_2030 | apply QQw_2031 | apply QQw_2032 | apply QQw_2033 | apply QQw_2034 | apply QQw_2035 | apply QQw_2048 | apply QQw_2049 | apply QQw_2050 | apply QQw_2051 | apply QQw_2052 | apply QQw_2053 | apply QQw_2054 | apply QQw_809 | apply QQw_810 | apply QQw_811 | apply QQw_812 | apply QQw_813 | apply QQ_J | refine QQ_n (by assumption) ?_ | refine QQ_sm (by assumption) (by decide) (by decide +kernel) ?_)))).2.1 hT.2.2.2.2.2.2 (by omega) hq20 (wNm_in hT hW hp hs hps) hs) (by decide) (by decide) ⟨Nat.zero_le _, Nat.zero_le _⟩ (Nat.le_of_ble_eq_true rfl) (fun x60 G60 l60 u60 hp60 => ?_)
    obtain ⟨hz60, hq60⟩ := hp60
    try simp only [zuI_1, zuI_2, zuJ_1, zuJ_2, zuJ_3, zuP_1, zuP_2, zuP_3, zuC_1, zuC_2, reduceIte, Nat.reduceEqDiff, false_and, and_false, true_and, and_true, and_self, or_true, true_or, or_false, false_or] at hq60
    skip
    obtain ⟨hx60, hN60⟩ := hq60
    have hx60b : x60 = wFine A W p s := hx60
    subst hx60b
    have hZ60 : QQ Γ w t A (up (up W 1 (W 0 0).toNat p) 2 (W 0 0).toNat s) G60 := QQ_n hz60 (by with_reducible repeat (first | assumption | apply QQw_510 | apply QQw_2026 | apply QQw_2027 | apply QQw_2028 | apply QQw_2029 | apply QQw_2030 | apply QQw_2031 | apply QQw_2032 | apply QQw_2033 | apply QQw_2034 | apply QQw_2035 | apply QQw_2048 | apply QQw_2049 | apply QQw_2050 | apply QQw_2051 | apply QQw_2052 | apply QQw_2053 | apply QQw_2054 | apply QQw_809 | apply QQw_810 | apply QQw_811 | apply QQw_812 | apply QQw_813 | apply QQ_J | refine QQ_n (by assumption) ?_ | refine QQ_sm (by assumption) (by decide) (by decide +kernel) ?_))
    have hn60 : ∀ j : Nat, j < 7 → G60.2.1 2018 (Γ.2.1 (Γ.2.1 t 0) 4) j = wNm A W p s j := fun j hj => (hN60 _ j).trans (hq20 j hj)
    refine zs_iast (r := 2028) (pc := 63) C dX7_grindOne_63 a_28 (by decide) (by omega) rfl (r_2028 _) (by omega) ?_
    refine zs_aload_n (pc := 64) C dX7_grindOne_64 rfl ?_
    refine zs_getf (pc := 65) C dX7_grindOne_65 w_X7_12 f_8_1 (by decide) ?_
    refine zs_getf (pc := 68) C dX7_grindOne_68 w_X7_174 f_5_3 (by decide) ?_
    refine zs_iload (pc := 71) C dX7_grindOne_71 rfl ?_
    refine zs_aload_n (pc := 73) C dX7_grindOne_73 rfl ?_
    refine zVip0 (pc := 74) C dX7_grindOne_74 v_X7_177 (c_X7_portionK hX (by with_reducible repeat (first | assumption | apply QQw_510 | apply QQw_2026 | apply QQw_2027 | apply QQw_2028 | apply QQw_2029 | apply QQw_2030 | apply QQw_2031 | apply QQw_2032 | apply QQw_2033 | apply QQw_2034 | apply QQw_2035 | apply QQw_2048 | apply QQw_2049 | apply QQw_2050 | apply QQw_2051 | apply QQw_2052 | apply QQw_2053 | apply QQw_2054 | apply QQw_809 | apply QQw_810 | apply QQw_811 | apply QQw_812 | apply QQw_813 | apply QQ_J | refine QQ_n (by assumption) ?_ | refine QQ_sm (by assumption) (by decide) (by decide +kernel) ?_))) (by decide) (by decide) ⟨Nat.zero_le _, Nat.zero_le _⟩ (Nat.le_of_ble_eq_true rfl) (fun x74 l74 u74 hp74 => ?_)
    have hq74 := hp74
    try simp only [zuI_1, zuI_2, zuJ_1, zuJ_2, zuJ_3, zuP_1, zuP_2, zuP_3, zuC_1, zuC_2, reduceIte, Nat.reduceEqDiff, false_and, and_false, true_and, and_true, and_self, or_true, true_or, or_false, false_or] at hq74
    have hx74 : x74 = wPort A W := hq74.trans (wPort_cg (by simp (disch := decide) only [up_f]))
    subst hx74
    refine zs_iast (r := 2029) (pc := 77) C dX7_grindOne_77 a_29 (by decide) (by omega) rfl (r_2029 _) (by omega) ?_
    refine zs_aload_n (pc := 78) C dX7_grindOne_78 rfl ?_
    refine zs_getf (pc := 79) C dX7_grindOne_79 w_X7_12 f_8_1 (by decide) ?_
    refine zs_getf (pc := 82) C dX7_grindOne_82 w_X7_181 f_5_4 (by decide) ?_
    refine zs_iload (pc := 85) C dX7_grindOne_85 rfl ?_
    refine zs_aload_n (pc := 87) C dX7_grindOne_87 rfl ?_
    refine zVip0 (pc := 88) C dX7_grindOne_88 v_X7_177 (c_X7_portionK hX (by with_reducible repeat (first | assumption | apply QQw_510 | apply QQw_2026 | apply QQw_2027 | apply QQw_2028 | apply QQw_2029 | apply QQw_2030 | apply QQw_2031 | apply QQw_2032 | apply QQw_2033 | apply QQw_2034 | apply QQw_2035 | apply QQw_2048 | apply QQw_2049 | apply QQw_2050 | apply QQw_2051 | apply QQw_2052 | apply QQw_2053 | apply QQw_2054 | apply QQw_809 | apply QQw_810 | apply QQw_811 | apply QQw_812 | apply QQw_813 | apply QQ_J | refine QQ_n (by assumption) ?_ | refine QQ_sm (by assumption) (by decide) (by decide +kernel) ?_))) (by decide) (by decide) ⟨Nat.zero_le _, Nat.zero_le _⟩ (Nat.le_of_ble_eq_true rfl) (fun x88 l88 u88 hp88 => ?_)
    have hq88 := hp88
    try simp only [zuI_1, zuI_2, zuJ_1, zuJ_2, zuJ_3, zuP_1, zuP_2, zuP_3, zuC_1, zuC_2, reduceIte, Nat.reduceEqDiff, false_and, and_false, true_and, and_true, and_self, or_true, true_or, or_false, false_or] at hq88
    have hx88 : x88 = wPort A W := hq88.trans (wPort_cg (by simp (disch := decide) only [up_f]))
    subst hx88
    refine zs_iast (r := 2030) (pc := 91) C dX7_grindOne_91 a_30 (by decide) (by omega) rfl (r_2030 _) (by omega) ?_
    refine zs_aload_n (pc := 92) C dX7_grindOne_92 rfl ?_
    refine zs_getf (pc := 93) C dX7_grindOne_93 w_X7_12 f_8_1 (by decide) ?_
    refine zs_getf (pc := 96) C dX7_grindOne_96 w_X7_135 f_5_5 (by decide) ?_
    refine zs_iload (pc := 99) C dX7_grindOne_99 rfl ?_
    refine zs_aload_n (pc := 101) C dX7_grindOne_101 rfl ?_
    refine zs_getf (pc := 102) C dX7_grindOne_102 w_X7_25 f_8_4 (by decide) ?_
    refine zs_iload_n (pc := 105) C dX7_grindOne_105 rfl ?_
    refine zs_iald (r := 2050) (pc := 106) C dX7_grindOne_106 a_50 (by decide) (by omega) rfl (r_2050 _) (fun v106 e106 l106 u106 => ?_)
    try simp only [zuI_1, zuI_2, zuJ_1, zuJ_2, zuJ_3, zuP_1, zuP_2, zuP_3, zuC_1, zuC_2, reduceIte, Nat.reduceEqDiff, false_and, and_false, true_and, and_true, and_self, or_true, true_or, or_false, false_or] at e106
    try simp only [QQ_2050 hZ60, QQ_2050 hZ20, QQ_2050 hZ] at e106
    try simp (disch := decide) only [up_f, up_fn] at e106
    try subst v106
    refine zs_iast (r := 2031) (pc := 107) C dX7_grindOne_107 a_31 (by decide) (by omega) rfl (r_2031 _) (by omega) ?_
    refine zs_aload_n (pc := 108) C dX7_grindOne_108 rfl ?_
    refine zs_getf (pc := 109) C dX7_grindOne_109 w_X7_12 f_8_1 (by decide) ?_
    refine zs_getf (pc := 112) C dX7_grindOne_112 w_X7_136 f_5_6 (by decide) ?_
    refine zs_iload (pc := 115) C dX7_grindOne_115 rfl ?_
    refine zs_aload_n (pc := 117) C dX7_grindOne_117 rfl ?_
    refine zs_geti (r := 811) (pc := 118) C dX7_grindOne_118 w_X7_79 f_8_11 rfl (r_811 0) (fun v118 e118 l118 u118 => ?_)
    try simp only [zuI_1, zuI_2, zuJ_1, zuJ_2, zuJ_3, zuP_1, zuP_2, zuP_3, zuC_1, zuC_2, reduceIte, Nat.reduceEqDiff, false_and, and_false, true_and, and_true, and_self, or_true, true_or, or_false, false_or] at e118
    try simp only [QQ_811 hZ60, QQ_811 hZ20, QQ_811 hZ] at e118
    try simp (disch := decide) only [up_f, up_fn] at e118
    try subst v118
    refine zs_iast (r := 2032) (pc := 121) C dX7_grindOne_121 a_32 (by decide) (by omega) rfl (r_2032 _) (by omega) ?_
    refine zs_aload_n (pc := 122) C dX7_grindOne_122 rfl ?_
    refine zs_getf (pc := 123) C dX7_grindOne_123 w_X7_12 f_8_1 (by decide) ?_
    refine zs_getf (pc := 126) C dX7_grindOne_126 w_X7_138 f_5_7 (by decide) ?_
    refine zs_iload (pc := 129) C dX7_grindOne_129 rfl ?_
    refine zs_aload_n (pc := 131) C dX7_grindOne_131 rfl ?_
    refine zs_iload_n (pc := 132) C dX7_grindOne_132 rfl ?_
    refine zVip1 (pc := 133) C dX7_grindOne_133 v_X7_109 (c_X7_prideOfK hX (by with_reducible repeat (first | assumption | apply QQw_510 | apply QQw_2026 | apply QQw_2027 | apply QQw_2028 | apply QQw_2029 | apply QQw_2030 | apply QQw_2031 | apply QQw_2032 | apply QQw_2033 | apply QQw_2034 | apply QQw_2035 | apply QQw_2048 | apply QQw_2049 | apply QQw_2050 | apply QQw_2051 | apply QQw_2052 | apply QQw_2053 | apply QQw_2054 | apply QQw_809 | apply QQw_810 | apply QQw_811 | apply QQw_812 | apply QQw_813 | apply QQ_J | refine QQ_n (by assumption) ?_ | refine QQ_sm (by assumption) (by decide) (by decide +kernel) ?_)) (by intro j hj; simp (disch := decide) only [up_f]; exact hWL j hj) hp) (by decide) (by decide) ⟨Nat.zero_le _, Nat.zero_le _⟩ (Nat.le_of_ble_eq_true rfl) (fun x133 l133 u133 hp133 => ?_)
    have hq133 := hp133
    try simp only [zuI_1, zuI_2, zuJ_1, zuJ_2, zuJ_3, zuP_1, zuP_2, zuP_3, zuC_1, zuC_2, reduceIte, Nat.reduceEqDiff, false_and, and_false, true_and, and_true, and_self, or_true, true_or, or_false, false_or] at hq133
    have hx133 : x133 = wPr W p := hq133.trans (wPr_cg (by simp (disch := decide) only [up_fn]))
    subst hx133
    refine zs_iast (r := 2033) (pc := 136) C dX7_grindOne_136 a_33 (by decide) (by omega) rfl (r_2033 _) (by omega) ?_
    refine zs_aload_n (pc := 137) C dX7_grindOne_137 rfl ?_
    refine zs_getf (pc := 138) C dX7_grindOne_138 w_X7_12 f_8_1 (by decide) ?_
    refine zs_getf (pc := 141) C dX7_grindOne_141 w_X7_147 f_5_8 (by decide) ?_
    refine zs_iload (pc := 144) C dX7_grindOne_144 rfl ?_
    refine zs_aload_n (pc := 146) C dX7_grindOne_146 rfl ?_
    refine zs_geti (r := 809) (pc := 147) C dX7_grindOne_147 w_X7_69 f_8_9 rfl (r_809 0) (fun v147 e147 l147 u147 => ?_)
    try simp only [zuI_1, zuI_2, zuJ_1, zuJ_2, zuJ_3, zuP_1, zuP_2, zuP_3, zuC_1, zuC_2, reduceIte, Nat.reduceEqDiff, false_and, and_false, true_and, and_true, and_self, or_true, true_or, or_false, false_or] at e147
    try simp only [QQ_809 hZ60, QQ_809 hZ20, QQ_809 hZ] at e147
    try simp (disch := decide) only [up_f, up_fn] at e147
    try subst v147
    refine zs_iast (r := 2034) (pc := 150) C dX7_grindOne_150 a_34 (by decide) (by omega) rfl (r_2034 _) (by omega) ?_
    refine zs_aload_n (pc := 151) C dX7_grindOne_151 rfl ?_
    refine zs_getf (pc := 152) C dX7_grindOne_152 w_X7_12 f_8_1 (by decide) ?_
    refine zs_getf (pc := 155) C dX7_grindOne_155 w_X7_184 f_5_9 (by decide) ?_
    refine zs_iload (pc := 158) C dX7_grindOne_158 rfl ?_
    refine zs_aload_n (pc := 160) C dX7_grindOne_160 rfl ?_
    refine zs_iload_n (pc := 161) C dX7_grindOne_161 rfl ?_
    refine zVip1 (pc := 162) C dX7_grindOne_162 v_X7_187 (c_X7_leftBitsOfK hX (by with_reducible repeat (first | assumption | apply QQw_510 | apply QQw_2026 | apply QQw_2027 | apply QQw_2028 | apply QQw_2029 | apply QQw_2030 | apply QQw_2031 | apply QQw_2032 | apply QQw_2033 | apply QQw_2034 | apply QQw_2035 | apply QQw_2048 | apply QQw_2049 | apply QQw_2050 | apply QQw_2051 | apply QQw_2052 | apply QQw_2053 | apply QQw_2054 | apply QQw_809 | apply QQw_810 | apply QQw_811 | apply QQw_812 | apply QQw_813 | apply QQ_J | refine QQ_n (by assumption) ?_ | refine QQ_sm (by assumption) (by decide) (by decide +kernel) ?_)) hp) (by decide) (by decide) ⟨Nat.zero_le _, Nat.zero_le _⟩ (Nat.le_of_ble_eq_true rfl) (fun x162 l162 u162 hp162 => ?_)
    have hq162 := hp162
    try simp only [zuI_1, zuI_2, zuJ_1, zuJ_2, zuJ_3, zuP_1, zuP_2, zuP_3, zuC_1, zuC_2, reduceIte, Nat.reduceEqDiff, false_and, and_false, true_and, and_true, and_self, or_true, true_or, or_false, false_or] at hq162
    have hx162 : x162 = wBits W p := hq162.trans (wBits_cg (by simp (disch := decide) only [up_fn]))
    subst hx162
    refine zs_iast (r := 2035) (pc := 165) C dX7_grindOne_165 a_35 (by decide) (by omega) rfl (r_2035 _) (by omega) ?_
    refine zs_aload_n (pc := 166) C dX7_grindOne_166 rfl ?_
    refine zs_getf (pc := 167) C dX7_grindOne_167 w_X7_12 f_8_1 (by decide) ?_
    refine zs_dupa (pc := 170) C dX7_grindOne_170 ?_
    refine zs_geti (r := 510) (pc := 171) C dX7_grindOne_171 w_X7_48 f_5_10 rfl (r_510 0) (fun v171 e171 l171 u171 => ?_)
    try simp only [zuI_1, zuI_2, zuJ_1, zuJ_2, zuJ_3, zuP_1, zuP_2, zuP_3, zuC_1, zuC_2, reduceIte, Nat.reduceEqDiff, false_and, and_false, true_and, and_true, and_self, or_true, true_or, or_false, false_or] at e171
    try simp only [QQ_510 hZ60, QQ_510 hZ20, QQ_510 hZ] at e171
    try simp (disch := decide) only [up_f, up_fn] at e171
    try subst v171
    refine zs_iconst (pc := 174) C dX7_grindOne_174 (by decide) ?_
    first | refine zs_iadd (pc := 175) C dX7_grindOne_175 (by omega) ?_ | refine zs_iaddF (pc := 175) C dX7_grindOne_175 (fun z175 hz1751 hz1752 => ?_)
    refine zs_puti (r := 510) (pc := 176) C dX7_grindOne_176 w_X7_48 f_5_10 rfl (r_510 0) (by omega) ?_
    refine zs_aload_n (pc := 179) C dX7_grindOne_179 rfl ?_
    refine zs_dupa (pc := 180) C dX7_grindOne_180 ?_
    refine zs_geti (r := 810) (pc := 181) C dX7_grindOne_181 w_X7_75 f_8_10 rfl (r_810 0) (fun v181 e181 l181 u181 => ?_)
    try simp only [zuI_1, zuI_2, zuJ_1, zuJ_2, zuJ_3, zuP_1, zuP_2, zuP_3, zuC_1, zuC_2, reduceIte, Nat.reduceEqDiff, false_and, and_false, true_and, and_true, and_self, or_true, true_or, or_false, false_or] at e181
    try simp only [QQ_810 hZ60, QQ_810 hZ20, QQ_810 hZ] at e181
    try simp (disch := decide) only [up_f, up_fn] at e181
    try subst v181
    refine zs_aload_n (pc := 184) C dX7_grindOne_184 rfl ?_
    refine zVip0 (pc := 185) C dX7_grindOne_185 v_X7_177 (c_X7_portionK hX (by with_reducible repeat (first | assumption | apply QQw_510 | apply QQw_2026 | apply QQw_2027 | apply QQw_2028 | apply QQw_2029 | apply QQw_2030 | apply QQw_2031 | apply QQw_2032 | apply QQw_2033 | apply QQw_2034 | apply QQw_2035 | apply QQw_2048 | apply QQw_2049 | apply QQw_2050 | apply QQw_2051 | apply QQw_2052 | apply QQw_2053 | apply QQw_2054 | apply QQw_809 | apply QQw_810 | apply QQw_811 | apply QQw_812 | apply QQw_813 | apply QQ_J | refine QQ_n (by assumption) ?_ | refine QQ_sm (by assumption) (by decide) (by decide +kernel) ?_))) (by decide) (by decide) ⟨Nat.zero_le _, Nat.zero_le _⟩ (Nat.le_of_ble_eq_true rfl) (fun x185 l185 u185 hp185 => ?_)
    have hq185 := hp185
    try simp only [zuI_1, zuI_2, zuJ_1, zuJ_2, zuJ_3, zuP_1, zuP_2, zuP_3, zuC_1, zuC_2, reduceIte, Nat.reduceEqDiff, false_and, and_false, true_and, and_true, and_self, or_true, true_or, or_false, false_or] at hq185
    have hx185 : x185 = wPort A W := hq185.trans (wPort_cg (by simp (disch := decide) only [up_f]))
    subst hx185
    first | refine zs_isub (pc := 188) C dX7_grindOne_188 (by omega) ?_ | refine zs_isubF (pc := 188) C dX7_grindOne_188 (fun z188 hz1881 hz1882 => ?_)
    refine zs_puti (r := 810) (pc := 189) C dX7_grindOne_189 w_X7_75 f_8_10 rfl (r_810 0) (by omega) ?_
    exact zs_wk (J192 _ (by repeat (first | exact zsm_rf | assumption | refine zsm_C (by decide) ?_ | refine zsm_I (by decide) ?_ | refine zsm_J ?_ | refine zsm_c (by assumption) (by decide) ?_)) (by with_reducible repeat (first | assumption | apply QQw_510 | apply QQw_2026 | apply QQw_2027 | apply QQw_2028 | apply QQw_2029 | apply QQw_2030 | apply QQw_2031 | apply QQw_2032 | apply QQw_2033 | apply QQw_2034 | apply QQw_2035 | apply QQw_2048 | apply QQw_2049 | apply QQw_2050 | apply QQw_2051 | apply QQw_2052 | apply QQw_2053 | apply QQw_2054 | apply QQw_809 | apply QQw_810 | apply QQw_811 | apply QQw_812 | apply QQw_813 | apply QQ_J | refine QQ_n (by assumption) ?_ | refine QQ_sm (by assumption) (by decide) (by decide +kernel) ?_)) (fun j hj => hn60 j hj)) (zwk_s rfl (zwk_s rfl (zwk_s rfl (zwk_s rfl (zwk_s rfl zwk_0)))))
  · skip
    exact zs_vret (pc := 7) C hr hlk dX7_grindOne_7 ⟨by repeat (first | exact zsm_rf | assumption | refine zsm_C (by decide) ?_ | refine zsm_I (by decide) ?_ | refine zsm_J ?_ | refine zsm_c (by assumption) (by decide) ?_), by unfold wGrind; rw [if_neg (fun q => by have := hq1.2.mpr q; omega)]; exact hZ⟩
end
section
set_option maxHeartbeats 4000000 in
set_option maxRecDepth 100000 in
theorem c_X7_ungrindK {l : Launch} {Γ : zΓ} {G : zH} {w t : Nat} {A W : aS}  (hX : zXs Γ) (hZ : QQ Γ w t A W G) (hW : WI A W) (hT : TA A)  : zMet l Γ yX7_ungrind cX7_ungrind 4 none 1 [zr 8 w] G (zpv (fun G' => zsm [510, 2026, 2027, 2028, 2029, 2030, 2031, 2032, 2033, 2034, 2035, 810, 811, 2049, 2050, 2051] G G' ∧ QQ Γ w t A (wUngrind W) G')) := by
  have hI := QQ_t hZ
  have h00 := hW.1
  obtain ⟨w18, w19, w20, w21, w22⟩ := hW.2.2.2.2.2
  refine zMet_of RX7 hX (by decide) rfl (Nat.le_of_ble_eq_true rfl) ?_
  intro p e s m args below meth c C hr hlk
  show Z p l e (zrm 1) s m args below meth c Γ 4 0 0 (MQ below (zQc Γ (zpv (fun G' => zsm [510, 2026, 2027, 2028, 2029, 2030, 2031, 2032, 2033, 2034, 2035, 810, 811, 2049, 2050, 2051] G G' ∧ QQ Γ w t A (wUngrind W) G'))) args s 0 0 (zA Γ)) 0 [some (zr 8 w), none, none, none] [] G
  refine zs_aload_n (pc := 0) C dX7_ungrind_0 rfl ?_
  refine zs_getf (pc := 1) C dX7_ungrind_1 w_X7_12 f_8_1 (by decide) ?_
  refine zs_geti (r := 510) (pc := 4) C dX7_ungrind_4 w_X7_48 f_5_10 rfl (r_510 0) (fun v4 e4 l4 u4 => ?_)
  try simp only [QQ_510 hZ] at e4
  try subst v4
  refine zs_if_gt (tgt := 11) (pc := 7) C dX7_ungrind_7 (by decide) (fun h7 => ?_) (fun h7 => ?_)
  · skip
    have hsk := hW.2.1 (W 0 0 - 1).toNat (by omega)
    obtain ⟨⟨s1, s1b⟩, ⟨s2, s2b⟩, s3, s4, s5, s6, s7, s8, s9, s10⟩ := hsk
    have h1399 := hT.1
    have s14 := hW.2.2.2.2.1 (W 1 (W 0 0 - 1).toNat).toNat (by omega)
    have s12 := WI_L hW (p := W 1 (W 0 0 - 1).toNat) (s := W 2 (W 0 0 - 1).toNat) (by omega) (by omega)
    refine zs_aload_n (pc := 11) C dX7_ungrind_11 rfl ?_
    refine zs_getf (pc := 12) C dX7_ungrind_12 w_X7_12 f_8_1 (by decide) ?_
    refine zs_dupa (pc := 15) C dX7_ungrind_15 ?_
    refine zs_geti (r := 510) (pc := 16) C dX7_ungrind_16 w_X7_48 f_5_10 rfl (r_510 0) (fun v16 e16 l16 u16 => ?_)
    try simp only [QQ_510 hZ] at e16
    try subst v16
    refine zs_iconst (pc := 19) C dX7_ungrind_19 (by decide) ?_
    first | refine zs_isub (pc := 20) C dX7_ungrind_20 (by omega) ?_ | refine zs_isubF (pc := 20) C dX7_ungrind_20 (fun z20 hz201 hz202 => ?_)
    refine zs_puti (r := 510) (pc := 21) C dX7_ungrind_21 w_X7_48 f_5_10 rfl (r_510 0) (by omega) ?_
    refine zs_aload_n (pc := 24) C dX7_ungrind_24 rfl ?_
    refine zs_getf (pc := 25) C dX7_ungrind_25 w_X7_12 f_8_1 (by decide) ?_
    refine zs_geti (r := 510) (pc := 28) C dX7_ungrind_28 w_X7_48 f_5_10 rfl (r_510 0) (fun v28 e28 l28 u28 => ?_)
    try simp only [zuI_1, zuI_2, zuJ_1, zuJ_2, zuJ_3, zuP_1, zuP_2, zuP_3, zuC_1, zuC_2, reduceIte, Nat.reduceEqDiff, false_and, and_false, true_and, and_true, and_self, or_true, true_or, or_false, false_or] at e28
    try simp only [QQ_510 hZ] at e28
    try subst v28
    refine zs_istore_n (pc := 31) C dX7_ungrind_31 (by decide) ?_
    dsimp only [zset, zclr, znone]
    refine zs_aload_n (pc := 32) C dX7_ungrind_32 rfl ?_
    refine zs_getf (pc := 33) C dX7_ungrind_33 w_X7_12 f_8_1 (by decide) ?_
    refine zs_getf (pc := 36) C dX7_ungrind_36 w_X7_144 f_5_0 (by decide) ?_
    refine zs_iload_n (pc := 39) C dX7_ungrind_39 rfl ?_
    refine zs_iald (r := 2026) (pc := 40) C dX7_ungrind_40 a_26 (by decide) (by omega) rfl (r_2026 _) (fun v40 e40 l40 u40 => ?_)
    try simp only [zuI_1, zuI_2, zuJ_1, zuJ_2, zuJ_3, zuP_1, zuP_2, zuP_3, zuC_1, zuC_2, reduceIte, Nat.reduceEqDiff, false_and, and_false, true_and, and_true, and_self, or_true, true_or, or_false, false_or] at e40
    try simp only [QQ_2026 hZ] at e40
    try subst v40
    refine zs_istore_n (pc := 41) C dX7_ungrind_41 (by decide) ?_
    dsimp only [zset, zclr, znone]
    refine zs_aload_n (pc := 42) C dX7_ungrind_42 rfl ?_
    refine zs_getf (pc := 43) C dX7_ungrind_43 w_X7_12 f_8_1 (by decide) ?_
    refine zs_getf (pc := 46) C dX7_ungrind_46 w_X7_154 f_5_1 (by decide) ?_
    refine zs_iload_n (pc := 49) C dX7_ungrind_49 rfl ?_
    refine zs_iald (r := 2027) (pc := 50) C dX7_ungrind_50 a_27 (by decide) (by omega) rfl (r_2027 _) (fun v50 e50 l50 u50 => ?_)
    try simp only [zuI_1, zuI_2, zuJ_1, zuJ_2, zuJ_3, zuP_1, zuP_2, zuP_3, zuC_1, zuC_2, reduceIte, Nat.reduceEqDiff, false_and, and_false, true_and, and_true, and_self, or_true, true_or, or_false, false_or] at e50
    try simp only [QQ_2027 hZ] at e50
    try subst v50
    refine zs_istore_n (pc := 51) C dX7_ungrind_51 (by decide) ?_
    dsimp only [zset, zclr, znone]
    refine zs_aload_n (pc := 52) C dX7_ungrind_52 rfl ?_
    refine zs_dupa (pc := 53) C dX7_ungrind_53 ?_
    refine zs_geti (r := 810) (pc := 54) C dX7_ungrind_54 w_X7_75 f_8_10 rfl (r_810 0) (fun v54 e54 l54 u54 => ?_)
    try simp only [zuI_1, zuI_2, zuJ_1, zuJ_2, zuJ_3, zuP_1, zuP_2, zuP_3, zuC_1, zuC_2, reduceIte, Nat.reduceEqDiff, false_and, and_false, true_and, and_true, and_self, or_true, true_or, or_false, false_or] at e54
    try simp only [QQ_810 hZ] at e54
    try subst v54
    refine zs_aload_n (pc := 57) C dX7_ungrind_57 rfl ?_
    refine zs_getf (pc := 58) C dX7_ungrind_58 w_X7_12 f_8_1 (by decide) ?_
    refine zs_getf (pc := 61) C dX7_ungrind_61 w_X7_174 f_5_3 (by decide) ?_
    refine zs_iload_n (pc := 64) C dX7_ungrind_64 rfl ?_
    refine zs_iald (r := 2029) (pc := 65) C dX7_ungrind_65 a_29 (by decide) (by omega) rfl (r_2029 _) (fun v65 e65 l65 u65 => ?_)
    try simp only [zuI_1, zuI_2, zuJ_1, zuJ_2, zuJ_3, zuP_1, zuP_2, zuP_3, zuC_1, zuC_2, reduceIte, Nat.reduceEqDiff, false_and, and_false, true_and, and_true, and_self, or_true, true_or, or_false, false_or] at e65
    try simp only [QQ_2029 hZ] at e65
    try subst v65
    first | refine zs_iadd (pc := 66) C dX7_ungrind_66 (by omega) ?_ | refine zs_iaddF (pc := 66) C dX7_ungrind_66 (fun z66 hz661 hz662 => ?_)
    refine zs_puti (r := 810) (pc := 67) C dX7_ungrind_67 w_X7_75 f_8_10 rfl (r_810 0) (by omega) ?_
    refine zs_aload_n (pc := 70) C dX7_ungrind_70 rfl ?_
    refine zs_aload_n (pc := 71) C dX7_ungrind_71 rfl ?_
    refine zs_getf (pc := 72) C dX7_ungrind_72 w_X7_12 f_8_1 (by decide) ?_
    refine zs_getf (pc := 75) C dX7_ungrind_75 w_X7_136 f_5_6 (by decide) ?_
    refine zs_iload_n (pc := 78) C dX7_ungrind_78 rfl ?_
    refine zs_iald (r := 2032) (pc := 79) C dX7_ungrind_79 a_32 (by decide) (by omega) rfl (r_2032 _) (fun v79 e79 l79 u79 => ?_)
    try simp only [zuI_1, zuI_2, zuJ_1, zuJ_2, zuJ_3, zuP_1, zuP_2, zuP_3, zuC_1, zuC_2, reduceIte, Nat.reduceEqDiff, false_and, and_false, true_and, and_true, and_self, or_true, true_or, or_false, false_or] at e79
    try simp only [QQ_2032 hZ] at e79
    try subst v79
    refine zs_puti (r := 811) (pc := 80) C dX7_ungrind_80 w_X7_79 f_8_11 rfl (r_811 0) (by omega) ?_
    refine zs_aload_n (pc := 83) C dX7_ungrind_83 rfl ?_
    refine zs_getf (pc := 84) C dX7_ungrind_84 w_X7_25 f_8_4 (by decide) ?_
    refine zs_iload_n (pc := 87) C dX7_ungrind_87 rfl ?_
    refine zs_aload_n (pc := 88) C dX7_ungrind_88 rfl ?_
    refine zs_getf (pc := 89) C dX7_ungrind_89 w_X7_12 f_8_1 (by decide) ?_
    refine zs_getf (pc := 92) C dX7_ungrind_92 w_X7_135 f_5_5 (by decide) ?_
    refine zs_iload_n (pc := 95) C dX7_ungrind_95 rfl ?_
    refine zs_iald (r := 2031) (pc := 96) C dX7_ungrind_96 a_31 (by decide) (by omega) rfl (r_2031 _) (fun v96 e96 l96 u96 => ?_)
    try simp only [zuI_1, zuI_2, zuJ_1, zuJ_2, zuJ_3, zuP_1, zuP_2, zuP_3, zuC_1, zuC_2, reduceIte, Nat.reduceEqDiff, false_and, and_false, true_and, and_true, and_self, or_true, true_or, or_false, false_or] at e96
    try simp only [QQ_2031 hZ] at e96
    try subst v96
    refine zs_iast (r := 2050) (pc := 97) C dX7_ungrind_97 a_50 (by decide) (by omega) rfl (r_2050 _) (by omega) ?_
    refine zs_aload_n (pc := 98) C dX7_ungrind_98 rfl ?_
    refine zs_getf (pc := 99) C dX7_ungrind_99 w_X7_12 f_8_1 (by decide) ?_
    refine zs_iload_n (pc := 102) C dX7_ungrind_102 rfl ?_
    refine zs_iload_n (pc := 103) C dX7_ungrind_103 rfl ?_
    refine zVip2 (pc := 104) C dX7_ungrind_104 v_X7_141 (c_X4_lieByK hX (by repeat (first | assumption | apply QQw_510 | apply QQw_2026 | apply QQw_2027 | apply QQw_2028 | apply QQw_2029 | apply QQw_2030 | apply QQw_2031 | apply QQw_2032 | apply QQw_2033 | apply QQw_2034 | apply QQw_2035 | apply QQw_2048 | apply QQw_2049 | apply QQw_2050 | apply QQw_2051 | apply QQw_2052 | apply QQw_2053 | apply QQw_2054 | apply QQw_809 | apply QQw_810 | apply QQw_811 | apply QQw_812 | apply QQw_813 | apply QQ_J | refine QQ_n (by assumption) ?_ | refine QQ_sm (by assumption) (by decide) (by decide +kernel) ?_)) (by omega)) (by decide) (by decide) ⟨Nat.zero_le _, Nat.zero_le _⟩ (Nat.le_of_ble_eq_true rfl) (fun x104 l104 u104 hp104 => ?_)
    have hq104 := hp104
    try simp only [zuI_1, zuI_2, zuJ_1, zuJ_2, zuJ_3, zuP_1, zuP_2, zuP_3, zuC_1, zuC_2, reduceIte, Nat.reduceEqDiff, false_and, and_false, true_and, and_true, and_self, or_true, true_or, or_false, false_or] at hq104
    have hl104 : x104 = wLie W (W 0 0 - 1) (W 2 (W 0 0 - 1).toNat) := hq104
    refine zs_if_ne (tgt := 127) (pc := 107) C dX7_ungrind_107 (by decide) (fun h107 => ?_) (fun h107 => ?_)
    · skip
      refine zs_aload_n (pc := 127) C dX7_ungrind_127 rfl ?_
      refine zs_getf (pc := 128) C dX7_ungrind_128 w_X7_28 f_8_5 (by decide) ?_
      refine zs_iload_n (pc := 131) C dX7_ungrind_131 rfl ?_
      refine zs_dup2 (pc := 132) C dX7_ungrind_132 ?_
      refine zs_iald (r := 2051) (pc := 133) C dX7_ungrind_133 a_51 (by decide) (by omega) rfl (r_2051 _) (fun v133 e133 l133 u133 => ?_)
      try simp only [zuI_1, zuI_2, zuJ_1, zuJ_2, zuJ_3, zuP_1, zuP_2, zuP_3, zuC_1, zuC_2, reduceIte, Nat.reduceEqDiff, false_and, and_false, true_and, and_true, and_self, or_true, true_or, or_false, false_or] at e133
      try simp only [QQ_2051 hZ] at e133
      try subst v133
      refine zs_iconst (pc := 134) C dX7_ungrind_134 (by decide) ?_
      first | refine zs_isub (pc := 135) C dX7_ungrind_135 (by omega) ?_ | refine zs_isubF (pc := 135) C dX7_ungrind_135 (fun z135 hz1351 hz1352 => ?_)
      refine zs_iast (r := 2051) (pc := 136) C dX7_ungrind_136 a_51 (by decide) (by omega) rfl (r_2051 _) (by omega) ?_
      exact zs_vret (pc := 137) C hr hlk dX7_ungrind_137 ⟨by repeat (first | exact zsm_rf | assumption | refine zsm_C (by decide) ?_ | refine zsm_I (by decide) ?_ | refine zsm_J ?_ | refine zsm_c (by assumption) (by decide) ?_), (by unfold wUngrind wUg1; rw [if_neg (show ¬ W 0 0 ≤ 0 by omega)]; first | (rw [if_pos (show wLie W (W 0 0 - 1) (W 2 (W 0 0 - 1).toNat) = 0 by omega)]; repeat (first | assumption | apply QQw_510 | apply QQw_2026 | apply QQw_2027 | apply QQw_2028 | apply QQw_2029 | apply QQw_2030 | apply QQw_2031 | apply QQw_2032 | apply QQw_2033 | apply QQw_2034 | apply QQw_2035 | apply QQw_2048 | apply QQw_2049 | apply QQw_2050 | apply QQw_2051 | apply QQw_2052 | apply QQw_2053 | apply QQw_2054 | apply QQw_809 | apply QQw_810 | apply QQw_811 | apply QQw_812 | apply QQw_813 | apply QQ_J | refine QQ_n (by assumption) ?_ | refine QQ_sm (by assumption) (by decide) (by decide +kernel) ?_)) | (rw [if_neg (show ¬ wLie W (W 0 0 - 1) (W 2 (W 0 0 - 1).toNat) = 0 by omega)]; repeat (first | assumption | apply QQw_510 | apply QQw_2026 | apply QQw_2027 | apply QQw_2028 | apply QQw_2029 | apply QQw_2030 | apply QQw_2031 | apply QQw_2032 | apply QQw_2033 | apply QQw_2034 | apply QQw_2035 | apply QQw_2048 | apply QQw_2049 | apply QQw_2050 | apply QQw_2051 | apply QQw_2052 | apply QQw_2053 | apply QQw_2054 | apply QQw_809 | apply QQw_810 | apply QQw_811 | apply QQw_812 | apply QQw_813 | apply QQ_J | refine QQ_n (by assumption) ?_ | refine QQ_sm (by assumption) (by decide) (by decide +kernel) ?_)))⟩
    · skip
      refine zs_aload_n (pc := 110) C dX7_ungrind_110 rfl ?_
      refine zs_getf (pc := 111) C dX7_ungrind_111 w_X7_22 f_8_3 (by decide) ?_
      refine zs_iload_n (pc := 114) C dX7_ungrind_114 rfl ?_
      refine zs_iconst (pc := 115) C dX7_ungrind_115 (by decide) ?_
      first | refine zs_imul (pc := 116) C dX7_ungrind_116 (by omega) ?_ | refine zs_imulF (pc := 116) C dX7_ungrind_116 (fun z116 hz1161 hz1162 => ?_)
      refine zs_iload_n (pc := 117) C dX7_ungrind_117 rfl ?_
      first | refine zs_iadd (pc := 118) C dX7_ungrind_118 (by omega) ?_ | refine zs_iaddF (pc := 118) C dX7_ungrind_118 (fun z118 hz1181 hz1182 => ?_)
      refine zs_dup2 (pc := 119) C dX7_ungrind_119 ?_
      refine zs_iald (r := 2049) (pc := 120) C dX7_ungrind_120 a_49 (by decide) (by omega) rfl (r_2049 _) (fun v120 e120 l120 u120 => ?_)
      try simp only [zuI_1, zuI_2, zuJ_1, zuJ_2, zuJ_3, zuP_1, zuP_2, zuP_3, zuC_1, zuC_2, reduceIte, Nat.reduceEqDiff, false_and, and_false, true_and, and_true, and_self, or_true, true_or, or_false, false_or] at e120
      try simp only [QQ_2049 hZ] at e120
      try subst v120
      refine zs_iconst (pc := 121) C dX7_ungrind_121 (by decide) ?_
      first | refine zs_iadd (pc := 122) C dX7_ungrind_122 (by omega) ?_ | refine zs_iaddF (pc := 122) C dX7_ungrind_122 (fun z122 hz1221 hz1222 => ?_)
      refine zs_iast (r := 2049) (pc := 123) C dX7_ungrind_123 a_49 (by decide) (by omega) rfl (r_2049 _) (by omega) ?_
      refine zs_goto (tgt := 137) (pc := 124) C dX7_ungrind_124 (by decide) ?_
      exact zs_vret (pc := 137) C hr hlk dX7_ungrind_137 ⟨by repeat (first | exact zsm_rf | assumption | refine zsm_C (by decide) ?_ | refine zsm_I (by decide) ?_ | refine zsm_J ?_ | refine zsm_c (by assumption) (by decide) ?_), (by unfold wUngrind wUg1; rw [if_neg (show ¬ W 0 0 ≤ 0 by omega)]; first | (rw [if_pos (show wLie W (W 0 0 - 1) (W 2 (W 0 0 - 1).toNat) = 0 by omega)]; repeat (first | assumption | apply QQw_510 | apply QQw_2026 | apply QQw_2027 | apply QQw_2028 | apply QQw_2029 | apply QQw_2030 | apply QQw_2031 | apply QQw_2032 | apply QQw_2033 | apply QQw_2034 | apply QQw_2035 | apply QQw_2048 | apply QQw_2049 | apply QQw_2050 | apply QQw_2051 | apply QQw_2052 | apply QQw_2053 | apply QQw_2054 | apply QQw_809 | apply QQw_810 | apply QQw_811 | apply QQw_812 | apply QQw_813 | apply QQ_J | refine QQ_n (by assumption) ?_ | refine QQ_sm (by assumption) (by decide) (by decide +kernel) ?_)) | (rw [if_neg (show ¬ wLie W (W 0 0 - 1) (W 2 (W 0 0 - 1).toNat) = 0 by omega)]; repeat (first | assumption | apply QQw_510 | apply QQw_2026 | apply QQw_2027 | apply QQw_2028 | apply QQw_2029 | apply QQw_2030 | apply QQw_2031 | apply QQw_2032 | apply QQw_2033 | apply QQw_2034 | apply QQw_2035 | apply QQw_2048 | apply QQw_2049 | apply QQw_2050 | apply QQw_2051 | apply QQw_2052 | apply QQw_2053 | apply QQw_2054 | apply QQw_809 | apply QQw_810 | apply QQw_811 | apply QQw_812 | apply QQw_813 | apply QQ_J | refine QQ_n (by assumption) ?_ | refine QQ_sm (by assumption) (by decide) (by decide +kernel) ?_)))⟩
  · skip
    exact zs_vret (pc := 10) C hr hlk dX7_ungrind_10 ⟨by repeat (first | exact zsm_rf | assumption | refine zsm_C (by decide) ?_ | refine zsm_I (by decide) ?_ | refine zsm_J ?_ | refine zsm_c (by assumption) (by decide) ?_), by unfold wUngrind; rw [if_pos (by omega)]; exact hZ⟩
end
