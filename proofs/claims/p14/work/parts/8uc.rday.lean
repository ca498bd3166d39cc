set_option maxHeartbeats 4000000 in
set_option maxRecDepth 100000 in
theorem c_X9_daysW {l : Launch} {Γ : zΓ} {G : zH} {w : Nat} {a : Int} {A W : aS}  (hX : zXs Γ) (hR : rW Γ w 0 W G) (hK : kR Γ w A G) (hW : WI A W) (hT : TA A) (hS : rS Γ w W G)  : zMet l Γ yX9_days cX9_days 3 (some .int) 7 [zr 10 w, zi a] G (zpi (fun x G' => zsm [1050, 2091, 2092, 2093, 2094, 2095, 2096, 2097, 2098, 2099, 2100, 2088, 2087, 2082, 2084, 2083, 2089, 2086, 1073, 2090, 1074, 1002, 1084] G G' ∧ (x = (if (0 ≤ a ∧ W 18 0 + a ≤ 100) then W 18 0 + a else -1) ∧ rW Γ w 0 (if (0 ≤ a ∧ W 18 0 + a ≤ 100) then wDays A a.toNat W else W) G' ∧ rS Γ w (if (0 ≤ a ∧ W 18 0 + a ≤ 100) then wDays A a.toNat W else W) G' ∧ G'.1 1084 w 0 = (if (0 ≤ a ∧ W 18 0 + a ≤ 100) ∧ 0 < a then 0 else G.1 1084 w 0) ∧ zsj [2079, 2080] G G'))) := by
  refine zMet_of RX9 hX (by decide) rfl (Nat.le_of_ble_eq_true rfl) ?_
  intro p e s m args below meth c C hr hlk
  show Z p l e (zrm 7) s m args below meth c Γ 3 0 0 (MQ below (zQc Γ (zpi (fun x G' => zsm [1050, 2091, 2092, 2093, 2094, 2095, 2096, 2097, 2098, 2099, 2100, 2088, 2087, 2082, 2084, 2083, 2089, 2086, 1073, 2090, 1074, 1002, 1084] G G' ∧ (x = (if (0 ≤ a ∧ W 18 0 + a ≤ 100) then W 18 0 + a else -1) ∧ rW Γ w 0 (if (0 ≤ a ∧ W 18 0 + a ≤ 100) then wDays A a.toNat W else W) G' ∧ rS Γ w (if (0 ≤ a ∧ W 18 0 + a ≤ 100) then wDays A a.toNat W else W) G' ∧ G'.1 1084 w 0 = (if (0 ≤ a ∧ W 18 0 + a ≤ 100) ∧ 0 < a then 0 else G.1 1084 w 0) ∧ zsj [2079, 2080] G G')))) args s 0 0 (zA Γ)) 0 [some (zr 10 w), some (zi a), none] [] G
  refine zs_loc 1 rfl (fun ha1 hb1 => ?_)
  obtain ⟨rA, rB, ⟨r1, r2, r3, r4⟩, rC⟩ := id hR
  have h18 := hW.2.2.2.2.2.1
  refine zs_aload_n (pc := 0) C dX9_days_0 rfl ?_
  refine zs_iconst (pc := 1) C dX9_days_1 (by decide) ?_
  refine zs_puti (r := 1002) (pc := 2) C dX9_days_2 w_X9_178 f_10_2 rfl (r_1002 0) (by omega) ?_
  refine zs_iload_n (pc := 5) C dX9_days_5 rfl ?_
  refine zs_iconst (pc := 6) C dX9_days_6 (by decide) ?_
  refine zs_bipush (pc := 7) C dX9_days_7 (by decide) (by decide) ?_
  refine zSip3 (pc := 9) C dX9_days_9 s_X9_223 (c_X9_isIn hX ) (by decide) ⟨Nat.zero_le _, Nat.zero_le _⟩ (Nat.le_of_ble_eq_true rfl) (fun x9 l9 u9 hp9 => ?_)
  have hq9 := hp9
  try simp only [zuI_1, zuI_2, zuJ_1, zuJ_2, zuJ_3, zuP_1, zuP_2, zuP_3, zuC_1, zuC_2, reduceIte, Nat.reduceEqDiff, false_and, and_false, true_and, and_true, and_self, or_true, true_or, or_false, false_or] at hq9
  refine zs_if_eq (tgt := 28) (pc := 12) C dX9_days_12 (by decide) (fun h12 => ?_) (fun h12 => ?_)
  · skip
    have hno : ¬ (0 ≤ a ∧ W 18 0 + a ≤ 100) := by omega
    refine zs_iconst (pc := 28) C dX9_days_28 (by decide) ?_
    exact zs_iret (pc := 29) C hr hlk dX9_days_29 ⟨by repeat (first | exact zsm_rf | assumption | refine zsm_C (by decide) ?_ | refine zsm_I (by decide) ?_ | refine zsm_J ?_ | refine zsm_c (by assumption) (by decide) ?_), ⟨by rw [if_neg hno], by rw [if_neg hno]; repeat (first | assumption | refine rW_sm (by assumption) (by decide) ?_ | refine rW_I (by decide) ?_ | refine rW_J ?_), by rw [if_neg hno]; exact rS_sm (rs := [1002]) (zsm_I (by simp) zsm_rf) (by decide) hS, by rw [if_neg (fun q => hno q.1)]; simp only [zuI_1, zuI_2, zuJ_1, zuJ_2, zuJ_3, zuP_1, zuP_2, zuP_3, zuC_1, zuC_2, reduceIte, Nat.reduceEqDiff, false_and, and_false, true_and, and_true, and_self, or_true, true_or, or_false, false_or], zsj_rf⟩⟩
  · skip
    refine zs_aload_n (pc := 15) C dX9_days_15 rfl ?_
    refine zs_getf (pc := 16) C dX9_days_16 w_X9_115 f_10_60 (by decide) ?_
    refine zs_iconst (pc := 19) C dX9_days_19 (by decide) ?_
    refine zs_iald (r := 2090) (pc := 20) C dX9_days_20 a_90 (by decide) (by omega) rfl (r_2090 _) (fun v20 e20 l20 u20 => ?_)
    try simp only [zuI_1, zuI_2, zuJ_1, zuJ_2, zuJ_3, zuP_1, zuP_2, zuP_3, zuC_1, zuC_2, reduceIte, Nat.reduceEqDiff, false_and, and_false, true_and, and_true, and_self, or_true, true_or, or_false, false_or] at e20
    have y20 : v20 = W 18 0 := e20.trans r4
    refine zs_iload_n (pc := 21) C dX9_days_21 rfl ?_
    first | refine zs_iadd (pc := 22) C dX9_days_22 (by omega) ?_ | refine zs_iaddF (pc := 22) C dX9_days_22 (fun z22 hz221 hz222 => ?_)
    refine zs_bipush (pc := 23) C dX9_days_23 (by decide) (by decide) ?_
    refine zs_icmp_le (tgt := 30) (pc := 25) C dX9_days_25 (by decide) (fun h25 => ?_) (fun h25 => ?_)
    · skip
      have hok : (0 ≤ a ∧ W 18 0 + a ≤ 100) := by omega
      refine zs_aload_n (pc := 30) C dX9_days_30 rfl ?_
      refine zs_iconst (pc := 31) C dX9_days_31 (by decide) ?_
      refine zs_puti (r := 1074) (pc := 32) C dX9_days_32 w_X9_148 f_10_74 rfl (r_1074 0) (by omega) ?_
      refine zs_iconst (pc := 35) C dX9_days_35 (by decide) ?_
      refine zs_istore_n (pc := 36) C dX9_days_36 (by decide) ?_
      dsimp only [zset, zclr, znone]
      have L37 : ∀ (nn : Nat) (x2 : Int) (G1 : zH), (0 ≤ x2 ∧ x2 ≤ a) → (zsm [1050, 2091, 2092, 2093, 2094, 2095, 2096, 2097, 2098, 2099, 2100, 2088, 2087, 2082, 2084, 2083, 2089, 2086, 1073, 2090, 1074, 1002, 1084] G G1) → (rW Γ w 0 (wDays A x2.toNat W) G1) → (rS Γ w (wDays A x2.toNat W) G1) → (G1.1 1084 w 0 = G.1 1084 w 0) → (G1.1 1074 w 0 = -1) → (zsj [2079, 2080] G G1) → (a - x2).toNat < nn → Z p l e (zrm 7) s m args below meth c Γ 3 0 0 (MQ below (zQc Γ (zpi (fun x G' => zsm [1050, 2091, 2092, 2093, 2094, 2095, 2096, 2097, 2098, 2099, 2100, 2088, 2087, 2082, 2084, 2083, 2089, 2086, 1073, 2090, 1074, 1002, 1084] G G' ∧ (x = (if (0 ≤ a ∧ W 18 0 + a ≤ 100) then W 18 0 + a else -1) ∧ rW Γ w 0 (if (0 ≤ a ∧ W 18 0 + a ≤ 100) then wDays A a.toNat W else W) G' ∧ rS Γ w (if (0 ≤ a ∧ W 18 0 + a ≤ 100) then wDays A a.toNat W else W) G' ∧ G'.1 1084 w 0 = (if (0 ≤ a ∧ W 18 0 + a ≤ 100) ∧ 0 < a then 0 else G.1 1084 w 0) ∧ zsj [2079, 2080] G G')))) args s 0 0 (zA Γ)) 37 [some (zr 10 w), some (zi a), some (zi x2)] [] G1 := by
        intro nn
        induction nn with
        | zero => intro x2 G1 h37_0 h37_1 h37_2 h37_3 h37_4 h37_5 h37_6 hm; exact absurd hm (Nat.not_lt_zero _)
        | succ nn ih37 =>
          intro x2 G1 h37_0 h37_1 h37_2 h37_3 h37_4 h37_5 h37_6 hm37
          refine zs_iload_n (pc := 37) C dX9_days_37 rfl ?_
          refine zs_iload_n (pc := 38) C dX9_days_38 rfl ?_
          refine zs_icmp_ge (tgt := 53) (pc := 39) C dX9_days_39 (by decide) (fun h39 => ?_) (fun h39 => ?_)
          · skip
            have hx2 : x2 = a := by omega
            rw [hx2] at h37_2 h37_3
            have hWk := WI_days hT hW a.toNat (by omega)
            obtain ⟨-, -, ⟨-, -, -, q4⟩, -⟩ := id h37_2
            refine zs_aload_n (pc := 53) C dX9_days_53 rfl ?_
            refine zs_iload_n (pc := 54) C dX9_days_54 rfl ?_
            refine zs_if_le (tgt := 62) (pc := 55) C dX9_days_55 (by decide) (fun h55 => ?_) (fun h55 => ?_)
            · skip
              refine zs_aload_n (pc := 62) C dX9_days_62 rfl ?_
              refine zs_geti (r := 1084) (pc := 63) C dX9_days_63 w_X9_382 f_10_84 rfl (r_1084 0) (fun v63 e63 l63 u63 => ?_)
              refine zs_puti (r := 1084) (pc := 66) C dX9_days_66 w_X9_382 f_10_84 rfl (r_1084 0) (by omega) ?_
              refine zs_aload_n (pc := 69) C dX9_days_69 rfl ?_
              refine zs_getf (pc := 70) C dX9_days_70 w_X9_115 f_10_60 (by decide) ?_
              refine zs_iconst (pc := 73) C dX9_days_73 (by decide) ?_
              refine zs_iald (r := 2090) (pc := 74) C dX9_days_74 a_90 (by decide) (by omega) rfl (r_2090 _) (fun v74 e74 l74 u74 => ?_)
              try simp only [zuI_1, zuI_2, zuJ_1, zuJ_2, zuJ_3, zuP_1, zuP_2, zuP_3, zuC_1, zuC_2, reduceIte, Nat.reduceEqDiff, false_and, and_false, true_and, and_true, and_self, or_true, true_or, or_false, false_or] at e74
              exact zs_iret (pc := 75) C hr hlk dX9_days_75 (by
                  have hx : v74 = W 18 0 + a := (by first | (rw [e74]; exact q4.trans (by rw [hWk.2]; omega)) | (rw [e74, zuI_1, if_neg (fun q => absurd q.1 (by decide))]; exact q4.trans (by rw [hWk.2]; omega)))
                  exact ⟨by repeat (first | exact zsm_rf | assumption | refine zsm_C (by decide) ?_ | refine zsm_I (by decide) ?_ | refine zsm_J ?_ | refine zsm_c (by assumption) (by decide) ?_), ⟨by rw [if_pos hok]; exact hx, by rw [if_pos hok]; repeat (first | assumption | refine rW_sm (by assumption) (by decide) ?_ | refine rW_I (by decide) ?_ | refine rW_J ?_), by rw [if_pos hok]; exact rS_sm (rs := [1084]) (zsm_I (by simp) zsm_rf) (by decide) h37_3, (by first | (rw [if_pos ⟨hok, by omega⟩]; simp only [zuI_1, zuI_2, zuJ_1, zuJ_2, zuJ_3, zuP_1, zuP_2, zuP_3, zuC_1, zuC_2, reduceIte, Nat.reduceEqDiff, false_and, and_false, true_and, and_true, and_self, or_true, true_or, or_false, false_or]; done) | (rw [if_neg (fun q => by have := q.2; omega)]; simp only [zuI_1, zuI_2, zuJ_1, zuJ_2, zuJ_3, zuP_1, zuP_2, zuP_3, zuC_1, zuC_2, reduceIte, Nat.reduceEqDiff, false_and, and_false, true_and, and_true, and_self, or_true, true_or, or_false, false_or]; first | exact h37_4 | omega)), (by repeat (first | exact zsj_rf | assumption | refine zsj_I ?_ | refine zsj_J (by decide) ?_ | refine zsj_e (by assumption) ?_ | refine zsj_c (by assumption) (by decide) ?_))⟩⟩)
            · skip
              refine zs_iconst (pc := 58) C dX9_days_58 (by decide) ?_
              refine zs_goto (tgt := 66) (pc := 59) C dX9_days_59 (by decide) ?_
              refine zs_puti (r := 1084) (pc := 66) C dX9_days_66 w_X9_382 f_10_84 rfl (r_1084 0) (by omega) ?_
              refine zs_aload_n (pc := 69) C dX9_days_69 rfl ?_
              refine zs_getf (pc := 70) C dX9_days_70 w_X9_115 f_10_60 (by decide) ?_
              refine zs_iconst (pc := 73) C dX9_days_73 (by decide) ?_
              refine zs_iald (r := 2090) (pc := 74) C dX9_days_74 a_90 (by decide) (by omega) rfl (r_2090 _) (fun v74 e74 l74 u74 => ?_)
              try simp only [zuI_1, zuI_2, zuJ_1, zuJ_2, zuJ_3, zuP_1, zuP_2, zuP_3, zuC_1, zuC_2, reduceIte, Nat.reduceEqDiff, false_and, and_false, true_and, and_true, and_self, or_true, true_or, or_false, false_or] at e74
              exact zs_iret (pc := 75) C hr hlk dX9_days_75 (by
                  have hx : v74 = W 18 0 + a := (by first | (rw [e74]; exact q4.trans (by rw [hWk.2]; omega)) | (rw [e74, zuI_1, if_neg (fun q => absurd q.1 (by decide))]; exact q4.trans (by rw [hWk.2]; omega)))
                  exact ⟨by repeat (first | exact zsm_rf | assumption | refine zsm_C (by decide) ?_ | refine zsm_I (by decide) ?_ | refine zsm_J ?_ | refine zsm_c (by assumption) (by decide) ?_), ⟨by rw [if_pos hok]; exact hx, by rw [if_pos hok]; repeat (first | assumption | refine rW_sm (by assumption) (by decide) ?_ | refine rW_I (by decide) ?_ | refine rW_J ?_), by rw [if_pos hok]; exact rS_sm (rs := [1084]) (zsm_I (by simp) zsm_rf) (by decide) h37_3, (by first | (rw [if_pos ⟨hok, by omega⟩]; simp only [zuI_1, zuI_2, zuJ_1, zuJ_2, zuJ_3, zuP_1, zuP_2, zuP_3, zuC_1, zuC_2, reduceIte, Nat.reduceEqDiff, false_and, and_false, true_and, and_true, and_self, or_true, true_or, or_false, false_or]; done) | (rw [if_neg (fun q => by have := q.2; omega)]; simp only [zuI_1, zuI_2, zuJ_1, zuJ_2, zuJ_3, zuP_1, zuP_2, zuP_3, zuC_1, zuC_2, reduceIte, Nat.reduceEqDiff, false_and, and_false, true_and, and_true, and_self, or_true, true_or, or_false, false_or]; first | exact h37_4 | omega)), (by repeat (first | exact zsj_rf | assumption | refine zsj_I ?_ | refine zsj_J (by decide) ?_ | refine zsj_e (by assumption) ?_ | refine zsj_c (by assumption) (by decide) ?_))⟩⟩)
          · skip
            have hWd := WI_days hT hW x2.toNat (by omega)
            refine zs_aload_n (pc := 42) C dX9_days_42 rfl ?_
            refine zs_iconst (pc := 43) C dX9_days_43 (by decide) ?_
            refine zVv1 (pc := 44) C dX9_days_44 v_X9_489 (c_X9_goesByW0 hX h37_2 (kR_sm h37_1 (by decide) hK) hWd.1 hT h37_3 h37_5 (by omega)) (by decide) (by decide) ⟨Nat.zero_le _, Nat.zero_le _⟩ (Nat.le_of_ble_eq_true rfl) (fun G44 hp44 => ?_)
            obtain ⟨hz44, hq44⟩ := hp44
            have hRn := hq44.1
            have hSn := hq44.2.1
            have hj44 := hq44.2.2
            have hds := wDays_s (A := A) (W := W) (k := x2) (by omega)
            first | refine zs_iinc (pc := 47) C dX9_days_47 rfl (by decide) (by omega) ?_ | refine zs_iincF (pc := 47) C dX9_days_47 rfl (by decide) (fun z47 hz471 hz472 => ?_)
            dsimp only [zset, zclr, znone]
            refine zs_goto (tgt := 37) (pc := 50) C dX9_days_50 (by decide) ?_
            exact zs_wk (ih37 _ _ (by omega) (by repeat (first | exact zsm_rf | assumption | refine zsm_C (by decide) ?_ | refine zsm_I (by decide) ?_ | refine zsm_J ?_ | refine zsm_c (by assumption) (by decide) ?_)) (by rw [hds]; exact hRn) (by rw [hds]; exact hSn) (by rw [hz44.1 1084 (by decide)]; exact h37_4) (by rw [hz44.1 1074 (by decide)]; exact h37_5) (by repeat (first | exact zsj_rf | assumption | refine zsj_I ?_ | refine zsj_J (by decide) ?_ | refine zsj_e (by assumption) ?_ | refine zsj_c (by assumption) (by decide) ?_)) (by first | omega | (simp only [zuI_1, zuI_2, zuJ_1, zuJ_2, zuJ_3, zuP_1, zuP_2, zuP_3, zuC_1, zuC_2, reduceIte, Nat.reduceEqDiff, false_and, and_false, true_and, and_true, and_self, or_true, true_or, or_false, false_or]; omega))) (zwk_s rfl (zwk_s rfl (zwk_s rfl zwk_0)))
      exact zs_wk (L37 _ _ _ (by omega) (by repeat (first | exact zsm_rf | assumption | refine zsm_C (by decide) ?_ | refine zsm_I (by decide) ?_ | refine zsm_J ?_ | refine zsm_c (by assumption) (by decide) ?_)) (by repeat (first | assumption | refine rW_sm (by assumption) (by decide) ?_ | refine rW_I (by decide) ?_ | refine rW_J ?_)) (by exact rS_sm (rs := [1002, 1074]) (by repeat (first | exact zsm_rf | refine zsm_I (by decide) ?_)) (by decide) hS) (by simp only [zuI_1, zuI_2, zuJ_1, zuJ_2, zuJ_3, zuP_1, zuP_2, zuP_3, zuC_1, zuC_2, reduceIte, Nat.reduceEqDiff, false_and, and_false, true_and, and_true, and_self, or_true, true_or, or_false, false_or]) (by simp only [zuI_1, zuI_2, zuJ_1, zuJ_2, zuJ_3, zuP_1, zuP_2, zuP_3, zuC_1, zuC_2, reduceIte, Nat.reduceEqDiff, false_and, and_false, true_and, and_true, and_self, or_true, true_or, or_false, false_or]; first | rfl | done) zsj_rf (Nat.lt_succ_self _)) (zwk_s rfl (zwk_s rfl (zwk_s rfl zwk_0)))
    · skip
      have hno : ¬ (0 ≤ a ∧ W 18 0 + a ≤ 100) := by omega
      refine zs_iconst (pc := 28) C dX9_days_28 (by decide) ?_
      exact zs_iret (pc := 29) C hr hlk dX9_days_29 ⟨by repeat (first | exact zsm_rf | assumption | refine zsm_C (by decide) ?_ | refine zsm_I (by decide) ?_ | refine zsm_J ?_ | refine zsm_c (by assumption) (by decide) ?_), ⟨by rw [if_neg hno], by rw [if_neg hno]; repeat (first | assumption | refine rW_sm (by assumption) (by decide) ?_ | refine rW_I (by decide) ?_ | refine rW_J ?_), by rw [if_neg hno]; exact rS_sm (rs := [1002]) (zsm_I (by simp) zsm_rf) (by decide) hS, by rw [if_neg (fun q => hno q.1)]; simp only [zuI_1, zuI_2, zuJ_1, zuJ_2, zuJ_3, zuP_1, zuP_2, zuP_3, zuC_1, zuC_2, reduceIte, Nat.reduceEqDiff, false_and, and_false, true_and, and_true, and_self, or_true, true_or, or_false, false_or], zsj_rf⟩⟩

set_option maxHeartbeats 4000000 in
set_option maxRecDepth 100000 in
theorem c_X9_isRunW {l : Launch} {Γ : zΓ} {G : zH} {w : Nat} {a : Int} {A W : aS}  (hX : zXs Γ) (hR : rW Γ w 0 W G) (hW : WI A W)  : zMet l Γ yX9_isRun cX9_isRun 2 (some .boolean) 0 [zr 10 w, zi a] G (zpi (fun x G' => G' = G ∧ ((x = 0 ∨ x = 1) ∧ (x = 1 ↔ 0 ≤ a ∧ W 18 0 + a ≤ 100)))) := by
  refine zMet_of RX9 hX (by decide) rfl (Nat.le_of_ble_eq_true rfl) ?_
  intro p e s m args below meth c C hr hlk
  show Z p l e (zrm 0) s m args below meth c Γ 2 0 0 (MQ below (zQc Γ (zpi (fun x G' => G' = G ∧ ((x = 0 ∨ x = 1) ∧ (x = 1 ↔ 0 ≤ a ∧ W 18 0 + a ≤ 100))))) args s 0 0 (zA Γ)) 0 [some (zr 10 w), some (zi a)] [] G
  refine zs_loc 1 rfl (fun ha1 hb1 => ?_)
  obtain ⟨rA, rB, ⟨r1, r2, r3, r4⟩, rC⟩ := id hR
  have h18 := hW.2.2.2.2.2.1
  refine zs_iload_n (pc := 0) C dX9_isRun_0 rfl ?_
  refine zs_if_lt (tgt := 21) (pc := 1) C dX9_isRun_1 (by decide) (fun h1 => ?_) (fun h1 => ?_)
  · skip
    refine zs_iconst (pc := 21) C dX9_isRun_21 (by decide) ?_
    exact zs_zret (pc := 22) C hr hlk dX9_isRun_22 (by omega) ⟨rfl, (by refine ⟨by omega, ?_⟩; constructor <;> intro hq <;> omega)⟩
  · skip
    refine zs_iload_n (pc := 4) C dX9_isRun_4 rfl ?_
    refine zs_bipush (pc := 5) C dX9_isRun_5 (by decide) (by decide) ?_
    refine zs_aload_n (pc := 7) C dX9_isRun_7 rfl ?_
    refine zs_getf (pc := 8) C dX9_isRun_8 w_X9_115 f_10_60 (by decide) ?_
    refine zs_iconst (pc := 11) C dX9_isRun_11 (by decide) ?_
    refine zs_iald (r := 2090) (pc := 12) C dX9_isRun_12 a_90 (by decide) (by omega) rfl (r_2090 _) (fun v12 e12 l12 u12 => ?_)
    have y12 : v12 = W 18 0 := e12.trans r4
    first | refine zs_isub (pc := 13) C dX9_isRun_13 (by omega) ?_ | refine zs_isubF (pc := 13) C dX9_isRun_13 (fun z13 hz131 hz132 => ?_)
    refine zs_icmp_gt (tgt := 21) (pc := 14) C dX9_isRun_14 (by decide) (fun h14 => ?_) (fun h14 => ?_)
    · skip
      refine zs_iconst (pc := 21) C dX9_isRun_21 (by decide) ?_
      exact zs_zret (pc := 22) C hr hlk dX9_isRun_22 (by omega) ⟨rfl, (by refine ⟨by omega, ?_⟩; constructor <;> intro hq <;> omega)⟩
    · skip
      refine zs_iconst (pc := 17) C dX9_isRun_17 (by decide) ?_
      refine zs_goto (tgt := 22) (pc := 18) C dX9_isRun_18 (by decide) ?_
      exact zs_zret (pc := 22) C hr hlk dX9_isRun_22 (by omega) ⟨rfl, (by refine ⟨by omega, ?_⟩; constructor <;> intro hq <;> omega)⟩
