set_option maxHeartbeats 4000000 in
set_option maxRecDepth 100000 in
theorem c_X3_next {l : Launch} {Γ : zΓ} {G : zH} {w : Nat} (hX : zXs Γ) (h1 : 1 ≤ G.1 704 (Γ.2.1 w 0) 0) : zMet l Γ yX3_next cX3_next 1 none 0 [zr 4 w] G (zpv (fun G' => zsm [402, 403, 404, 405] G G' ∧ (0 ≤ G'.1 402 w 0))) := by
  refine zMet_of RX3 hX (by decide) rfl (Nat.le_of_ble_eq_true rfl) ?_
  intro p e s m args below meth c C hr hlk
  show Z p l e (zrm 0) s m args below meth c Γ 1 0 0 (MQ below (zQc Γ (zpv (fun G' => zsm [402, 403, 404, 405] G G' ∧ (0 ≤ G'.1 402 w 0)))) args s 0 0 (zA Γ)) 0 [some (zr 4 w)] [] G
  refine zs_aload_n (pc := 0) C dX3_next_0 rfl ?_
  refine zs_geti (r := 402) (pc := 1) C dX3_next_1 w_X3_48 f_4_2 rfl (r_402 0) (fun v1 e1 l1 u1 => ?_)
  refine zs_aload_n (pc := 4) C dX3_next_4 rfl ?_
  refine zs_getf (pc := 5) C dX3_next_5 w_X3_12 f_4_0 (by decide) ?_
  refine zs_geti (r := 704) (pc := 8) C dX3_next_8 w_X3_60 f_7_4 rfl (r_704 0) (fun v8 e8 l8 u8 => ?_)
  refine zs_iconst (pc := 11) C dX3_next_11 (by decide) ?_
  first | refine zs_isub (pc := 12) C dX3_next_12 (by omega) ?_ | refine zs_isubF (pc := 12) C dX3_next_12 (fun z12 hz121 hz122 => ?_)
  refine zs_icmp_ge (tgt := 26) (pc := 13) C dX3_next_13 (by decide) (fun h13 => ?_) (fun h13 => ?_)
  · skip
    refine zs_aload_n (pc := 26) C dX3_next_26 rfl ?_
    refine zs_aload_n (pc := 27) C dX3_next_27 rfl ?_
    refine zs_getf (pc := 28) C dX3_next_28 w_X3_12 f_4_0 (by decide) ?_
    refine zs_getf (pc := 31) C dX3_next_31 w_X3_63 f_7_1 (by decide) ?_
    refine zs_aload_n (pc := 34) C dX3_next_34 rfl ?_
    refine zs_geti (r := 402) (pc := 35) C dX3_next_35 w_X3_48 f_4_2 rfl (r_402 0) (fun v35 e35 l35 u35 => ?_)
    refine zs_iald (r := 2045) (pc := 38) C dX3_next_38 a_45 (by decide) (by omega) rfl (r_2045 _) (fun v38 e38 l38 u38 => ?_)
    refine zs_puti (r := 403) (pc := 39) C dX3_next_39 w_X3_54 f_4_3 rfl (r_403 0) (by omega) ?_
    refine zs_aload_n (pc := 42) C dX3_next_42 rfl ?_
    refine zs_aload_n (pc := 43) C dX3_next_43 rfl ?_
    refine zs_getf (pc := 44) C dX3_next_44 w_X3_12 f_4_0 (by decide) ?_
    refine zs_getf (pc := 47) C dX3_next_47 w_X3_65 f_7_3 (by decide) ?_
    refine zs_aload_n (pc := 50) C dX3_next_50 rfl ?_
    refine zs_geti (r := 402) (pc := 51) C dX3_next_51 w_X3_48 f_4_2 rfl (r_402 0) (fun v51 e51 l51 u51 => ?_)
    try simp only [zuI_1, zuI_2, zuJ_1, zuJ_2, zuJ_3, zuP_1, zuP_2, zuP_3, zuC_1, zuC_2, reduceIte, Nat.reduceEqDiff, false_and, and_false, true_and, and_true, and_self, or_true, true_or, or_false, false_or] at e51
    refine zs_iald (r := 2047) (pc := 54) C dX3_next_54 a_47 (by decide) (by omega) rfl (r_2047 _) (fun v54 e54 l54 u54 => ?_)
    try simp only [zuI_1, zuI_2, zuJ_1, zuJ_2, zuJ_3, zuP_1, zuP_2, zuP_3, zuC_1, zuC_2, reduceIte, Nat.reduceEqDiff, false_and, and_false, true_and, and_true, and_self, or_true, true_or, or_false, false_or] at e54
    refine zs_puti (r := 404) (pc := 55) C dX3_next_55 w_X3_68 f_4_4 rfl (r_404 0) (by omega) ?_
    refine zs_aload_n (pc := 58) C dX3_next_58 rfl ?_
    refine zs_aload_n (pc := 59) C dX3_next_59 rfl ?_
    refine zs_geti (r := 403) (pc := 60) C dX3_next_60 w_X3_54 f_4_3 rfl (r_403 0) (fun v60 e60 l60 u60 => ?_)
    try simp only [zuI_1, zuI_2, zuJ_1, zuJ_2, zuJ_3, zuP_1, zuP_2, zuP_3, zuC_1, zuC_2, reduceIte, Nat.reduceEqDiff, false_and, and_false, true_and, and_true, and_self, or_true, true_or, or_false, false_or] at e60
    refine zs_iconst (pc := 63) C dX3_next_63 (by decide) ?_
    refine zs_icmp_ne (tgt := 74) (pc := 64) C dX3_next_64 (by decide) (fun h64 => ?_) (fun h64 => ?_)
    · skip
      refine zs_iconst (pc := 74) C dX3_next_74 (by decide) ?_
      refine zs_puti (r := 405) (pc := 75) C dX3_next_75 w_X3_70 f_4_5 rfl (r_405 0) (by omega) ?_
      exact zs_vret (pc := 78) C hr hlk dX3_next_78 ⟨by repeat (first | exact zsm_rf | assumption | refine zsm_C (by decide) ?_ | refine zsm_I (by decide) ?_ | refine zsm_J ?_ | refine zsm_c (by assumption) (by decide) ?_), by first | omega | (simp only [zuI_1, zuI_2, zuJ_1, zuJ_2, zuJ_3, zuP_1, zuP_2, zuP_3, zuC_1, zuC_2, reduceIte, Nat.reduceEqDiff, false_and, and_false, true_and, and_true, and_self, or_true, true_or, or_false, false_or]; omega)⟩
    · skip
      refine zs_aload_n (pc := 67) C dX3_next_67 rfl ?_
      refine zs_geti (r := 404) (pc := 68) C dX3_next_68 w_X3_68 f_4_4 rfl (r_404 0) (fun v68 e68 l68 u68 => ?_)
      try simp only [zuI_1, zuI_2, zuJ_1, zuJ_2, zuJ_3, zuP_1, zuP_2, zuP_3, zuC_1, zuC_2, reduceIte, Nat.reduceEqDiff, false_and, and_false, true_and, and_true, and_self, or_true, true_or, or_false, false_or] at e68
      refine zs_goto (tgt := 75) (pc := 71) C dX3_next_71 (by decide) ?_
      refine zs_puti (r := 405) (pc := 75) C dX3_next_75 w_X3_70 f_4_5 rfl (r_405 0) (by omega) ?_
      exact zs_vret (pc := 78) C hr hlk dX3_next_78 ⟨by repeat (first | exact zsm_rf | assumption | refine zsm_C (by decide) ?_ | refine zsm_I (by decide) ?_ | refine zsm_J ?_ | refine zsm_c (by assumption) (by decide) ?_), by first | omega | (simp only [zuI_1, zuI_2, zuJ_1, zuJ_2, zuJ_3, zuP_1, zuP_2, zuP_3, zuC_1, zuC_2, reduceIte, Nat.reduceEqDiff, false_and, and_false, true_and, and_true, and_self, or_true, true_or, or_false, false_or]; omega)⟩
  · skip
    refine zs_aload_n (pc := 16) C dX3_next_16 rfl ?_
    refine zs_dupa (pc := 17) C dX3_next_17 ?_
    refine zs_geti (r := 402) (pc := 18) C dX3_next_18 w_X3_48 f_4_2 rfl (r_402 0) (fun v18 e18 l18 u18 => ?_)
    refine zs_iconst (pc := 21) C dX3_next_21 (by decide) ?_
    first | refine zs_iadd (pc := 22) C dX3_next_22 (by omega) ?_ | refine zs_iaddF (pc := 22) C dX3_next_22 (fun z22 hz221 hz222 => ?_)
    refine zs_puti (r := 402) (pc := 23) C dX3_next_23 w_X3_48 f_4_2 rfl (r_402 0) (by omega) ?_
    refine zs_aload_n (pc := 26) C dX3_next_26 rfl ?_
    refine zs_aload_n (pc := 27) C dX3_next_27 rfl ?_
    refine zs_getf (pc := 28) C dX3_next_28 w_X3_12 f_4_0 (by decide) ?_
    refine zs_getf (pc := 31) C dX3_next_31 w_X3_63 f_7_1 (by decide) ?_
    refine zs_aload_n (pc := 34) C dX3_next_34 rfl ?_
    refine zs_geti (r := 402) (pc := 35) C dX3_next_35 w_X3_48 f_4_2 rfl (r_402 0) (fun v35 e35 l35 u35 => ?_)
    try simp only [zuI_1, zuI_2, zuJ_1, zuJ_2, zuJ_3, zuP_1, zuP_2, zuP_3, zuC_1, zuC_2, reduceIte, Nat.reduceEqDiff, false_and, and_false, true_and, and_true, and_self, or_true, true_or, or_false, false_or] at e35
    refine zs_iald (r := 2045) (pc := 38) C dX3_next_38 a_45 (by decide) (by omega) rfl (r_2045 _) (fun v38 e38 l38 u38 => ?_)
    try simp only [zuI_1, zuI_2, zuJ_1, zuJ_2, zuJ_3, zuP_1, zuP_2, zuP_3, zuC_1, zuC_2, reduceIte, Nat.reduceEqDiff, false_and, and_false, true_and, and_true, and_self, or_true, true_or, or_false, false_or] at e38
    refine zs_puti (r := 403) (pc := 39) C dX3_next_39 w_X3_54 f_4_3 rfl (r_403 0) (by omega) ?_
    refine zs_aload_n (pc := 42) C dX3_next_42 rfl ?_
    refine zs_aload_n (pc := 43) C dX3_next_43 rfl ?_
    refine zs_getf (pc := 44) C dX3_next_44 w_X3_12 f_4_0 (by decide) ?_
    refine zs_getf (pc := 47) C dX3_next_47 w_X3_65 f_7_3 (by decide) ?_
    refine zs_aload_n (pc := 50) C dX3_next_50 rfl ?_
    refine zs_geti (r := 402) (pc := 51) C dX3_next_51 w_X3_48 f_4_2 rfl (r_402 0) (fun v51 e51 l51 u51 => ?_)
    try simp only [zuI_1, zuI_2, zuJ_1, zuJ_2, zuJ_3, zuP_1, zuP_2, zuP_3, zuC_1, zuC_2, reduceIte, Nat.reduceEqDiff, false_and, and_false, true_and, and_true, and_self, or_true, true_or, or_false, false_or] at e51
    refine zs_iald (r := 2047) (pc := 54) C dX3_next_54 a_47 (by decide) (by omega) rfl (r_2047 _) (fun v54 e54 l54 u54 => ?_)
    try simp only [zuI_1, zuI_2, zuJ_1, zuJ_2, zuJ_3, zuP_1, zuP_2, zuP_3, zuC_1, zuC_2, reduceIte, Nat.reduceEqDiff, false_and, and_false, true_and, and_true, and_self, or_true, true_or, or_false, false_or] at e54
    refine zs_puti (r := 404) (pc := 55) C dX3_next_55 w_X3_68 f_4_4 rfl (r_404 0) (by omega) ?_
    refine zs_aload_n (pc := 58) C dX3_next_58 rfl ?_
    refine zs_aload_n (pc := 59) C dX3_next_59 rfl ?_
    refine zs_geti (r := 403) (pc := 60) C dX3_next_60 w_X3_54 f_4_3 rfl (r_403 0) (fun v60 e60 l60 u60 => ?_)
    try simp only [zuI_1, zuI_2, zuJ_1, zuJ_2, zuJ_3, zuP_1, zuP_2, zuP_3, zuC_1, zuC_2, reduceIte, Nat.reduceEqDiff, false_and, and_false, true_and, and_true, and_self, or_true, true_or, or_false, false_or] at e60
    refine zs_iconst (pc := 63) C dX3_next_63 (by decide) ?_
    refine zs_icmp_ne (tgt := 74) (pc := 64) C dX3_next_64 (by decide) (fun h64 => ?_) (fun h64 => ?_)
    · skip
      refine zs_iconst (pc := 74) C dX3_next_74 (by decide) ?_
      refine zs_puti (r := 405) (pc := 75) C dX3_next_75 w_X3_70 f_4_5 rfl (r_405 0) (by omega) ?_
      exact zs_vret (pc := 78) C hr hlk dX3_next_78 ⟨by repeat (first | exact zsm_rf | assumption | refine zsm_C (by decide) ?_ | refine zsm_I (by decide) ?_ | refine zsm_J ?_ | refine zsm_c (by assumption) (by decide) ?_), by first | omega | (simp only [zuI_1, zuI_2, zuJ_1, zuJ_2, zuJ_3, zuP_1, zuP_2, zuP_3, zuC_1, zuC_2, reduceIte, Nat.reduceEqDiff, false_and, and_false, true_and, and_true, and_self, or_true, true_or, or_false, false_or]; omega)⟩
    · skip
      refine zs_aload_n (pc := 67) C dX3_next_67 rfl ?_
      refine zs_geti (r := 404) (pc := 68) C dX3_next_68 w_X3_68 f_4_4 rfl (r_404 0) (fun v68 e68 l68 u68 => ?_)
      try simp only [zuI_1, zuI_2, zuJ_1, zuJ_2, zuJ_3, zuP_1, zuP_2, zuP_3, zuC_1, zuC_2, reduceIte, Nat.reduceEqDiff, false_and, and_false, true_and, and_true, and_self, or_true, true_or, or_false, false_or] at e68
      refine zs_goto (tgt := 75) (pc := 71) C dX3_next_71 (by decide) ?_
      refine zs_puti (r := 405) (pc := 75) C dX3_next_75 w_X3_70 f_4_5 rfl (r_405 0) (by omega) ?_
      exact zs_vret (pc := 78) C hr hlk dX3_next_78 ⟨by repeat (first | exact zsm_rf | assumption | refine zsm_C (by decide) ?_ | refine zsm_I (by decide) ?_ | refine zsm_J ?_ | refine zsm_c (by assumption) (by decide) ?_), by first | omega | (simp only [zuI_1, zuI_2, zuJ_1, zuJ_2, zuJ_3, zuP_1, zuP_2, zuP_3, zuC_1, zuC_2, reduceIte, Nat.reduceEqDiff, false_and, and_false, true_and, and_true, and_self, or_true, true_or, or_false, false_or]; omega)⟩

set_option maxHeartbeats 4000000 in
set_option maxRecDepth 100000 in
theorem c_X3_fail {l : Launch} {Γ : zΓ} {G : zH} {w : Nat} {k : Int} (hX : zXs Γ) (h2 : 0 ≤ G.1 402 w 0) (hk : k ≠ 0) : zMet l Γ yX3_fail cX3_fail 2 none 0 [zr 4 w, zi k] G (zpv (fun G' => zsm [407, 408] G G' ∧ (G'.1 407 w 0 ≠ 0))) := by
  refine zMet_of RX3 hX (by decide) rfl (Nat.le_of_ble_eq_true rfl) ?_
  intro p e s m args below meth c C hr hlk
  show Z p l e (zrm 0) s m args below meth c Γ 2 0 0 (MQ below (zQc Γ (zpv (fun G' => zsm [407, 408] G G' ∧ (G'.1 407 w 0 ≠ 0)))) args s 0 0 (zA Γ)) 0 [some (zr 4 w), some (zi k)] [] G
  refine zs_loc 1 rfl (fun ha1 hb1 => ?_)
  refine zs_aload_n (pc := 0) C dX3_fail_0 rfl ?_
  refine zs_geti (r := 407) (pc := 1) C dX3_fail_1 w_X3_38 f_4_7 rfl (r_407 0) (fun v1 e1 l1 u1 => ?_)
  refine zs_if_ne (tgt := 28) (pc := 4) C dX3_fail_4 (by decide) (fun h4 => ?_) (fun h4 => ?_)
  · skip
    exact zs_vret (pc := 28) C hr hlk dX3_fail_28 ⟨by repeat (first | exact zsm_rf | assumption | refine zsm_C (by decide) ?_ | refine zsm_I (by decide) ?_ | refine zsm_J ?_ | refine zsm_c (by assumption) (by decide) ?_), by first | omega | (simp only [zuI_1, zuI_2, zuJ_1, zuJ_2, zuJ_3, zuP_1, zuP_2, zuP_3, zuC_1, zuC_2, reduceIte, Nat.reduceEqDiff, false_and, and_false, true_and, and_true, and_self, or_true, true_or, or_false, false_or]; omega)⟩
  · skip
    refine zs_aload_n (pc := 7) C dX3_fail_7 rfl ?_
    refine zs_iload_n (pc := 8) C dX3_fail_8 rfl ?_
    refine zs_puti (r := 407) (pc := 9) C dX3_fail_9 w_X3_38 f_4_7 rfl (r_407 0) (by omega) ?_
    refine zs_aload_n (pc := 12) C dX3_fail_12 rfl ?_
    refine zs_aload_n (pc := 13) C dX3_fail_13 rfl ?_
    refine zs_getf (pc := 14) C dX3_fail_14 w_X3_12 f_4_0 (by decide) ?_
    refine zs_getf (pc := 17) C dX3_fail_17 w_X3_73 f_7_2 (by decide) ?_
    refine zs_aload_n (pc := 20) C dX3_fail_20 rfl ?_
    refine zs_geti (r := 402) (pc := 21) C dX3_fail_21 w_X3_48 f_4_2 rfl (r_402 0) (fun v21 e21 l21 u21 => ?_)
    try simp only [zuI_1, zuI_2, zuJ_1, zuJ_2, zuJ_3, zuP_1, zuP_2, zuP_3, zuC_1, zuC_2, reduceIte, Nat.reduceEqDiff, false_and, and_false, true_and, and_true, and_self, or_true, true_or, or_false, false_or] at e21
    refine zs_iald (r := 2046) (pc := 24) C dX3_fail_24 a_46 (by decide) (by omega) rfl (r_2046 _) (fun v24 e24 l24 u24 => ?_)
    try simp only [zuI_1, zuI_2, zuJ_1, zuJ_2, zuJ_3, zuP_1, zuP_2, zuP_3, zuC_1, zuC_2, reduceIte, Nat.reduceEqDiff, false_and, and_false, true_and, and_true, and_self, or_true, true_or, or_false, false_or] at e24
    refine zs_puti (r := 408) (pc := 25) C dX3_fail_25 w_X3_42 f_4_8 rfl (r_408 0) (by omega) ?_
    exact zs_vret (pc := 28) C hr hlk dX3_fail_28 ⟨by repeat (first | exact zsm_rf | assumption | refine zsm_C (by decide) ?_ | refine zsm_I (by decide) ?_ | refine zsm_J ?_ | refine zsm_c (by assumption) (by decide) ?_), by first | omega | (simp only [zuI_1, zuI_2, zuJ_1, zuJ_2, zuJ_3, zuP_1, zuP_2, zuP_3, zuC_1, zuC_2, reduceIte, Nat.reduceEqDiff, false_and, and_false, true_and, and_true, and_self, or_true, true_or, or_false, false_or]; omega)⟩

set_option maxHeartbeats 4000000 in
set_option maxRecDepth 100000 in
theorem c_X3_isSign {l : Launch} {Γ : zΓ} {G : zH} {w : Nat} {k : Int} (hX : zXs Γ)  : zMet l Γ yX3_isSign cX3_isSign 2 (some .boolean) 0 [zr 4 w, zi k] G (zpi (fun x G' => G' = G ∧ (x = 0 ∨ x = 1))) := by
  refine zMet_of RX3 hX (by decide) rfl (Nat.le_of_ble_eq_true rfl) ?_
  intro p e s m args below meth c C hr hlk
  show Z p l e (zrm 0) s m args below meth c Γ 2 0 0 (MQ below (zQc Γ (zpi (fun x G' => G' = G ∧ (x = 0 ∨ x = 1)))) args s 0 0 (zA Γ)) 0 [some (zr 4 w), some (zi k)] [] G
  refine zs_loc 1 rfl (fun ha1 hb1 => ?_)
  refine zs_aload_n (pc := 0) C dX3_isSign_0 rfl ?_
  refine zs_geti (r := 403) (pc := 1) C dX3_isSign_1 w_X3_54 f_4_3 rfl (r_403 0) (fun v1 e1 l1 u1 => ?_)
  refine zs_iconst (pc := 4) C dX3_isSign_4 (by decide) ?_
  refine zs_icmp_ne (tgt := 20) (pc := 5) C dX3_isSign_5 (by decide) (fun h5 => ?_) (fun h5 => ?_)
  · skip
    refine zs_iconst (pc := 20) C dX3_isSign_20 (by decide) ?_
    exact zs_zret (pc := 21) C hr hlk dX3_isSign_21 (by omega) ⟨rfl, by first | omega | (simp only [zuI_1, zuI_2, zuJ_1, zuJ_2, zuJ_3, zuP_1, zuP_2, zuP_3, zuC_1, zuC_2, reduceIte, Nat.reduceEqDiff, false_and, and_false, true_and, and_true, and_self, or_true, true_or, or_false, false_or]; omega)⟩
  · skip
    refine zs_aload_n (pc := 8) C dX3_isSign_8 rfl ?_
    refine zs_geti (r := 404) (pc := 9) C dX3_isSign_9 w_X3_68 f_4_4 rfl (r_404 0) (fun v9 e9 l9 u9 => ?_)
    refine zs_iload_n (pc := 12) C dX3_isSign_12 rfl ?_
    refine zs_icmp_ne (tgt := 20) (pc := 13) C dX3_isSign_13 (by decide) (fun h13 => ?_) (fun h13 => ?_)
    · skip
      refine zs_iconst (pc := 20) C dX3_isSign_20 (by decide) ?_
      exact zs_zret (pc := 21) C hr hlk dX3_isSign_21 (by omega) ⟨rfl, by first | omega | (simp only [zuI_1, zuI_2, zuJ_1, zuJ_2, zuJ_3, zuP_1, zuP_2, zuP_3, zuC_1, zuC_2, reduceIte, Nat.reduceEqDiff, false_and, and_false, true_and, and_true, and_self, or_true, true_or, or_false, false_or]; omega)⟩
    · skip
      refine zs_iconst (pc := 16) C dX3_isSign_16 (by decide) ?_
      refine zs_goto (tgt := 21) (pc := 17) C dX3_isSign_17 (by decide) ?_
      exact zs_zret (pc := 21) C hr hlk dX3_isSign_21 (by omega) ⟨rfl, by first | omega | (simp only [zuI_1, zuI_2, zuJ_1, zuJ_2, zuJ_3, zuP_1, zuP_2, zuP_3, zuC_1, zuC_2, reduceIte, Nat.reduceEqDiff, false_and, and_false, true_and, and_true, and_self, or_true, true_or, or_false, false_or]; omega)⟩

set_option maxHeartbeats 4000000 in
set_option maxRecDepth 100000 in
theorem c_X3_readNumber {l : Launch} {Γ : zΓ} {G : zH} {w : Nat} {a b : Int} (hX : zXs Γ) (h1 : 1 ≤ G.1 704 (Γ.2.1 w 0) 0) (h2 : 0 ≤ G.1 402 w 0) (hab : a ≤ b) : zMet l Γ yX3_readNumber cX3_readNumber 4 (some .int) 1 [zr 4 w, zi a, zi b] G (zpi (fun x G' => zsm [402, 403, 404, 405, 406, 407, 408, 409, 410, 411, 412, 413, 2025, 206, 207, 2014, 2015, 2016, 2017, 2036, 2037, 2038, 2039, 2040, 2041, 2042, 2043, 609, 610, 611, 612] G G' ∧ (0 ≤ G'.1 402 w 0 ∧ a ≤ x ∧ x ≤ b))) := by
  refine zMet_of RX3 hX (by decide) rfl (Nat.le_of_ble_eq_true rfl) ?_
  intro p e s m args below meth c C hr hlk
  show Z p l e (zrm 1) s m args below meth c Γ 4 0 0 (MQ below (zQc Γ (zpi (fun x G' => zsm [402, 403, 404, 405, 406, 407, 408, 409, 410, 411, 412, 413, 2025, 206, 207, 2014, 2015, 2016, 2017, 2036, 2037, 2038, 2039, 2040, 2041, 2042, 2043, 609, 610, 611, 612] G G' ∧ (0 ≤ G'.1 402 w 0 ∧ a ≤ x ∧ x ≤ b)))) args s 0 0 (zA Γ)) 0 [some (zr 4 w), some (zi a), some (zi b), none] [] G
  refine zs_loc 1 rfl (fun ha1 hb1 => ?_)
  refine zs_loc 2 rfl (fun ha2 hb2 => ?_)
  refine zs_aload_n (pc := 0) C dX3_readNumber_0 rfl ?_
  refine zs_geti (r := 403) (pc := 1) C dX3_readNumber_1 w_X3_54 f_4_3 rfl (r_403 0) (fun v1 e1 l1 u1 => ?_)
  refine zs_iconst (pc := 4) C dX3_readNumber_4 (by decide) ?_
  refine zs_icmp_eq (tgt := 16) (pc := 5) C dX3_readNumber_5 (by decide) (fun h5 => ?_) (fun h5 => ?_)
  · skip
    refine zs_aload_n (pc := 16) C dX3_readNumber_16 rfl ?_
    refine zs_geti (r := 404) (pc := 17) C dX3_readNumber_17 w_X3_68 f_4_4 rfl (r_404 0) (fun v17 e17 l17 u17 => ?_)
    refine zs_iload_n (pc := 20) C dX3_readNumber_20 rfl ?_
    refine zs_icmp_lt (tgt := 32) (pc := 21) C dX3_readNumber_21 (by decide) (fun h21 => ?_) (fun h21 => ?_)
    · skip
      refine zs_aload_n (pc := 32) C dX3_readNumber_32 rfl ?_
      refine zs_iconst (pc := 33) C dX3_readNumber_33 (by decide) ?_
      refine zVv1 (pc := 34) C dX3_readNumber_34 v_X3_114 (c_X3_fail hX (by omega) (by omega)) (by decide) (by decide) ⟨Nat.zero_le _, Nat.zero_le _⟩ (Nat.le_of_ble_eq_true rfl) (fun G34 hp34 => ?_)
      obtain ⟨hz34, hq34⟩ := hp34
      have tr34_704 := zsm_at hz34 704 (Γ.2.1 w 0) 0 (by decide)
      try simp only [zuI_1, zuI_2, zuJ_1, zuJ_2, zuJ_3, zuP_1, zuP_2, zuP_3, zuC_1, zuC_2, reduceIte, Nat.reduceEqDiff, false_and, and_false, true_and, and_true, and_self, or_true, true_or, or_false, false_or] at tr34_704
      have tr34_402 := zsm_at hz34 402 w 0 (by decide)
      try simp only [zuI_1, zuI_2, zuJ_1, zuJ_2, zuJ_3, zuP_1, zuP_2, zuP_3, zuC_1, zuC_2, reduceIte, Nat.reduceEqDiff, false_and, and_false, true_and, and_true, and_self, or_true, true_or, or_false, false_or] at tr34_402
      refine zs_aload_n (pc := 37) C dX3_readNumber_37 rfl ?_
      refine zs_geti (r := 407) (pc := 38) C dX3_readNumber_38 w_X3_38 f_4_7 rfl (r_407 0) (fun v38 e38 l38 u38 => ?_)
      refine zs_if_eq (tgt := 46) (pc := 41) C dX3_readNumber_41 (by decide) (fun h41 => ?_) (fun h41 => ?_)
      · skip
        refine zs_aload_n (pc := 46) C dX3_readNumber_46 rfl ?_
        refine zs_geti (r := 404) (pc := 47) C dX3_readNumber_47 w_X3_68 f_4_4 rfl (r_404 0) (fun v47 e47 l47 u47 => ?_)
        refine zs_istore_n (pc := 50) C dX3_readNumber_50 (by decide) ?_
        dsimp only [zset, zclr, znone]
        refine zs_aload_n (pc := 51) C dX3_readNumber_51 rfl ?_
        refine zVv0 (pc := 52) C dX3_readNumber_52 v_X3_51 (c_X3_next hX (by omega)) (by decide) (by decide) ⟨Nat.zero_le _, Nat.zero_le _⟩ (Nat.le_of_ble_eq_true rfl) (fun G52 hp52 => ?_)
        obtain ⟨hz52, hq52⟩ := hp52
        have tr52_704 := zsm_at hz52 704 (Γ.2.1 w 0) 0 (by decide)
        try simp only [zuI_1, zuI_2, zuJ_1, zuJ_2, zuJ_3, zuP_1, zuP_2, zuP_3, zuC_1, zuC_2, reduceIte, Nat.reduceEqDiff, false_and, and_false, true_and, and_true, and_self, or_true, true_or, or_false, false_or] at tr52_704
        have tr52_407 := zsm_at hz52 407 w 0 (by decide)
        try simp only [zuI_1, zuI_2, zuJ_1, zuJ_2, zuJ_3, zuP_1, zuP_2, zuP_3, zuC_1, zuC_2, reduceIte, Nat.reduceEqDiff, false_and, and_false, true_and, and_true, and_self, or_true, true_or, or_false, false_or] at tr52_407
        refine zs_iload_n (pc := 55) C dX3_readNumber_55 rfl ?_
        exact zs_iret (pc := 56) C hr hlk dX3_readNumber_56 ⟨by repeat (first | exact zsm_rf | assumption | refine zsm_C (by decide) ?_ | refine zsm_I (by decide) ?_ | refine zsm_J ?_ | refine zsm_c (by assumption) (by decide) ?_), by first | omega | (simp only [zuI_1, zuI_2, zuJ_1, zuJ_2, zuJ_3, zuP_1, zuP_2, zuP_3, zuC_1, zuC_2, reduceIte, Nat.reduceEqDiff, false_and, and_false, true_and, and_true, and_self, or_true, true_or, or_false, false_or]; omega)⟩
      · skip
        refine zs_iload_n (pc := 44) C dX3_readNumber_44 rfl ?_
        exact zs_iret (pc := 45) C hr hlk dX3_readNumber_45 ⟨by repeat (first | exact zsm_rf | assumption | refine zsm_C (by decide) ?_ | refine zsm_I (by decide) ?_ | refine zsm_J ?_ | refine zsm_c (by assumption) (by decide) ?_), by first | omega | (simp only [zuI_1, zuI_2, zuJ_1, zuJ_2, zuJ_3, zuP_1, zuP_2, zuP_3, zuC_1, zuC_2, reduceIte, Nat.reduceEqDiff, false_and, and_false, true_and, and_true, and_self, or_true, true_or, or_false, false_or]; omega)⟩
    · skip
      refine zs_aload_n (pc := 24) C dX3_readNumber_24 rfl ?_
      refine zs_geti (r := 404) (pc := 25) C dX3_readNumber_25 w_X3_68 f_4_4 rfl (r_404 0) (fun v25 e25 l25 u25 => ?_)
      refine zs_iload_n (pc := 28) C dX3_readNumber_28 rfl ?_
      refine zs_icmp_le (tgt := 37) (pc := 29) C dX3_readNumber_29 (by decide) (fun h29 => ?_) (fun h29 => ?_)
      · skip
        refine zs_aload_n (pc := 37) C dX3_readNumber_37 rfl ?_
        refine zs_geti (r := 407) (pc := 38) C dX3_readNumber_38 w_X3_38 f_4_7 rfl (r_407 0) (fun v38 e38 l38 u38 => ?_)
        refine zs_if_eq (tgt := 46) (pc := 41) C dX3_readNumber_41 (by decide) (fun h41 => ?_) (fun h41 => ?_)
        · skip
          refine zs_aload_n (pc := 46) C dX3_readNumber_46 rfl ?_
          refine zs_geti (r := 404) (pc := 47) C dX3_readNumber_47 w_X3_68 f_4_4 rfl (r_404 0) (fun v47 e47 l47 u47 => ?_)
          refine zs_istore_n (pc := 50) C dX3_readNumber_50 (by decide) ?_
          dsimp only [zset, zclr, znone]
          refine zs_aload_n (pc := 51) C dX3_readNumber_51 rfl ?_
          refine zVv0 (pc := 52) C dX3_readNumber_52 v_X3_51 (c_X3_next hX (by omega)) (by decide) (by decide) ⟨Nat.zero_le _, Nat.zero_le _⟩ (Nat.le_of_ble_eq_true rfl) (fun G52 hp52 => ?_)
          obtain ⟨hz52, hq52⟩ := hp52
          have tr52_704 := zsm_at hz52 704 (Γ.2.1 w 0) 0 (by decide)
          try simp only [zuI_1, zuI_2, zuJ_1, zuJ_2, zuJ_3, zuP_1, zuP_2, zuP_3, zuC_1, zuC_2, reduceIte, Nat.reduceEqDiff, false_and, and_false, true_and, and_true, and_self, or_true, true_or, or_false, false_or] at tr52_704
          have tr52_407 := zsm_at hz52 407 w 0 (by decide)
          try simp only [zuI_1, zuI_2, zuJ_1, zuJ_2, zuJ_3, zuP_1, zuP_2, zuP_3, zuC_1, zuC_2, reduceIte, Nat.reduceEqDiff, false_and, and_false, true_and, and_true, and_self, or_true, true_or, or_false, false_or] at tr52_407
          refine zs_iload_n (pc := 55) C dX3_readNumber_55 rfl ?_
          exact zs_iret (pc := 56) C hr hlk dX3_readNumber_56 ⟨by repeat (first | exact zsm_rf | assumption | refine zsm_C (by decide) ?_ | refine zsm_I (by decide) ?_ | refine zsm_J ?_ | refine zsm_c (by assumption) (by decide) ?_), by first | omega | (simp only [zuI_1, zuI_2, zuJ_1, zuJ_2, zuJ_3, zuP_1, zuP_2, zuP_3, zuC_1, zuC_2, reduceIte, Nat.reduceEqDiff, false_and, and_false, true_and, and_true, and_self, or_true, true_or, or_false, false_or]; omega)⟩
        · skip
          refine zs_iload_n (pc := 44) C dX3_readNumber_44 rfl ?_
          exact zs_iret (pc := 45) C hr hlk dX3_readNumber_45 ⟨by repeat (first | exact zsm_rf | assumption | refine zsm_C (by decide) ?_ | refine zsm_I (by decide) ?_ | refine zsm_J ?_ | refine zsm_c (by assumption) (by decide) ?_), by first | omega | (simp only [zuI_1, zuI_2, zuJ_1, zuJ_2, zuJ_3, zuP_1, zuP_2, zuP_3, zuC_1, zuC_2, reduceIte, Nat.reduceEqDiff, false_and, and_false, true_and, and_true, and_self, or_true, true_or, or_false, false_or]; omega)⟩
      · skip
        refine zs_aload_n (pc := 32) C dX3_readNumber_32 rfl ?_
        refine zs_iconst (pc := 33) C dX3_readNumber_33 (by decide) ?_
        refine zVv1 (pc := 34) C dX3_readNumber_34 v_X3_114 (c_X3_fail hX (by omega) (by omega)) (by decide) (by decide) ⟨Nat.zero_le _, Nat.zero_le _⟩ (Nat.le_of_ble_eq_true rfl) (fun G34 hp34 => ?_)
        obtain ⟨hz34, hq34⟩ := hp34
        have tr34_704 := zsm_at hz34 704 (Γ.2.1 w 0) 0 (by decide)
        try simp only [zuI_1, zuI_2, zuJ_1, zuJ_2, zuJ_3, zuP_1, zuP_2, zuP_3, zuC_1, zuC_2, reduceIte, Nat.reduceEqDiff, false_and, and_false, true_and, and_true, and_self, or_true, true_or, or_false, false_or] at tr34_704
        have tr34_402 := zsm_at hz34 402 w 0 (by decide)
        try simp only [zuI_1, zuI_2, zuJ_1, zuJ_2, zuJ_3, zuP_1, zuP_2, zuP_3, zuC_1, zuC_2, reduceIte, Nat.reduceEqDiff, false_and, and_false, true_and, and_true, and_self, or_true, true_or, or_false, false_or] at tr34_402
        refine zs_aload_n (pc := 37) C dX3_readNumber_37 rfl ?_
        refine zs_geti (r := 407) (pc := 38) C dX3_readNumber_38 w_X3_38 f_4_7 rfl (r_407 0) (fun v38 e38 l38 u38 => ?_)
        refine zs_if_eq (tgt := 46) (pc := 41) C dX3_readNumber_41 (by decide) (fun h41 => ?_) (fun h41 => ?_)
        · skip
          refine zs_aload_n (pc := 46) C dX3_readNumber_46 rfl ?_
          refine zs_geti (r := 404) (pc := 47) C dX3_readNumber_47 w_X3_68 f_4_4 rfl (r_404 0) (fun v47 e47 l47 u47 => ?_)
          refine zs_istore_n (pc := 50) C dX3_readNumber_50 (by decide) ?_
          dsimp only [zset, zclr, znone]
          refine zs_aload_n (pc := 51) C dX3_readNumber_51 rfl ?_
          refine zVv0 (pc := 52) C dX3_readNumber_52 v_X3_51 (c_X3_next hX (by omega)) (by decide) (by decide) ⟨Nat.zero_le _, Nat.zero_le _⟩ (Nat.le_of_ble_eq_true rfl) (fun G52 hp52 => ?_)
          obtain ⟨hz52, hq52⟩ := hp52
          have tr52_704 := zsm_at hz52 704 (Γ.2.1 w 0) 0 (by decide)
          try simp only [zuI_1, zuI_2, zuJ_1, zuJ_2, zuJ_3, zuP_1, zuP_2, zuP_3, zuC_1, zuC_2, reduceIte, Nat.reduceEqDiff, false_and, and_false, true_and, and_true, and_self, or_true, true_or, or_false, false_or] at tr52_704
          have tr52_407 := zsm_at hz52 407 w 0 (by decide)
          try simp only [zuI_1, zuI_2, zuJ_1, zuJ_2, zuJ_3, zuP_1, zuP_2, zuP_3, zuC_1, zuC_2, reduceIte, Nat.reduceEqDiff, false_and, and_false, true_and, and_true, and_self, or_true, true_or, or_false, false_or] at tr52_407
          refine zs_iload_n (pc := 55) C dX3_readNumber_55 rfl ?_
          exact zs_iret (pc := 56) C hr hlk dX3_readNumber_56 ⟨by repeat (first | exact zsm_rf | assumption | refine zsm_C (by decide) ?_ | refine zsm_I (by decide) ?_ | refine zsm_J ?_ | refine zsm_c (by assumption) (by decide) ?_), by first | omega | (simp only [zuI_1, zuI_2, zuJ_1, zuJ_2, zuJ_3, zuP_1, zuP_2, zuP_3, zuC_1, zuC_2, reduceIte, Nat.reduceEqDiff, false_and, and_false, true_and, and_true, and_self, or_true, true_or, or_false, false_or]; omega)⟩
        · skip
          refine zs_iload_n (pc := 44) C dX3_readNumber_44 rfl ?_
          exact zs_iret (pc := 45) C hr hlk dX3_readNumber_45 ⟨by repeat (first | exact zsm_rf | assumption | refine zsm_C (by decide) ?_ | refine zsm_I (by decide) ?_ | refine zsm_J ?_ | refine zsm_c (by assumption) (by decide) ?_), by first | omega | (simp only [zuI_1, zuI_2, zuJ_1, zuJ_2, zuJ_3, zuP_1, zuP_2, zuP_3, zuC_1, zuC_2, reduceIte, Nat.reduceEqDiff, false_and, and_false, true_and, and_true, and_self, or_true, true_or, or_false, false_or]; omega)⟩
  · skip
    refine zs_aload_n (pc := 8) C dX3_readNumber_8 rfl ?_
    refine zs_iconst (pc := 9) C dX3_readNumber_9 (by decide) ?_
    refine zVv1 (pc := 10) C dX3_readNumber_10 v_X3_114 (c_X3_fail hX (by omega) (by omega)) (by decide) (by decide) ⟨Nat.zero_le _, Nat.zero_le _⟩ (Nat.le_of_ble_eq_true rfl) (fun G10 hp10 => ?_)
    obtain ⟨hz10, hq10⟩ := hp10
    have tr10_704 := zsm_at hz10 704 (Γ.2.1 w 0) 0 (by decide)
    try simp only [zuI_1, zuI_2, zuJ_1, zuJ_2, zuJ_3, zuP_1, zuP_2, zuP_3, zuC_1, zuC_2, reduceIte, Nat.reduceEqDiff, false_and, and_false, true_and, and_true, and_self, or_true, true_or, or_false, false_or] at tr10_704
    have tr10_402 := zsm_at hz10 402 w 0 (by decide)
    try simp only [zuI_1, zuI_2, zuJ_1, zuJ_2, zuJ_3, zuP_1, zuP_2, zuP_3, zuC_1, zuC_2, reduceIte, Nat.reduceEqDiff, false_and, and_false, true_and, and_true, and_self, or_true, true_or, or_false, false_or] at tr10_402
    refine zs_goto (tgt := 37) (pc := 13) C dX3_readNumber_13 (by decide) ?_
    refine zs_aload_n (pc := 37) C dX3_readNumber_37 rfl ?_
    refine zs_geti (r := 407) (pc := 38) C dX3_readNumber_38 w_X3_38 f_4_7 rfl (r_407 0) (fun v38 e38 l38 u38 => ?_)
    refine zs_if_eq (tgt := 46) (pc := 41) C dX3_readNumber_41 (by decide) (fun h41 => ?_) (fun h41 => ?_)
    · skip
      refine zs_aload_n (pc := 46) C dX3_readNumber_46 rfl ?_
      refine zs_geti (r := 404) (pc := 47) C dX3_readNumber_47 w_X3_68 f_4_4 rfl (r_404 0) (fun v47 e47 l47 u47 => ?_)
      refine zs_istore_n (pc := 50) C dX3_readNumber_50 (by decide) ?_
      dsimp only [zset, zclr, znone]
      refine zs_aload_n (pc := 51) C dX3_readNumber_51 rfl ?_
      refine zVv0 (pc := 52) C dX3_readNumber_52 v_X3_51 (c_X3_next hX (by omega)) (by decide) (by decide) ⟨Nat.zero_le _, Nat.zero_le _⟩ (Nat.le_of_ble_eq_true rfl) (fun G52 hp52 => ?_)
      obtain ⟨hz52, hq52⟩ := hp52
      have tr52_704 := zsm_at hz52 704 (Γ.2.1 w 0) 0 (by decide)
      try simp only [zuI_1, zuI_2, zuJ_1, zuJ_2, zuJ_3, zuP_1, zuP_2, zuP_3, zuC_1, zuC_2, reduceIte, Nat.reduceEqDiff, false_and, and_false, true_and, and_true, and_self, or_true, true_or, or_false, false_or] at tr52_704
      have tr52_407 := zsm_at hz52 407 w 0 (by decide)
      try simp only [zuI_1, zuI_2, zuJ_1, zuJ_2, zuJ_3, zuP_1, zuP_2, zuP_3, zuC_1, zuC_2, reduceIte, Nat.reduceEqDiff, false_and, and_false, true_and, and_true, and_self, or_true, true_or, or_false, false_or] at tr52_407
      refine zs_iload_n (pc := 55) C dX3_readNumber_55 rfl ?_
      exact zs_iret (pc := 56) C hr hlk dX3_readNumber_56 ⟨by repeat (first | exact zsm_rf | assumption | refine zsm_C (by decide) ?_ | refine zsm_I (by decide) ?_ | refine zsm_J ?_ | refine zsm_c (by assumption) (by decide) ?_), by first | omega | (simp only [zuI_1, zuI_2, zuJ_1, zuJ_2, zuJ_3, zuP_1, zuP_2, zuP_3, zuC_1, zuC_2, reduceIte, Nat.reduceEqDiff, false_and, and_false, true_and, and_true, and_self, or_true, true_or, or_false, false_or]; omega)⟩
    · skip
      refine zs_iload_n (pc := 44) C dX3_readNumber_44 rfl ?_
      exact zs_iret (pc := 45) C hr hlk dX3_readNumber_45 ⟨by repeat (first | exact zsm_rf | assumption | refine zsm_C (by decide) ?_ | refine zsm_I (by decide) ?_ | refine zsm_J ?_ | refine zsm_c (by assumption) (by decide) ?_), by first | omega | (simp only [zuI_1, zuI_2, zuJ_1, zuJ_2, zuJ_3, zuP_1, zuP_2, zuP_3, zuC_1, zuC_2, reduceIte, Nat.reduceEqDiff, false_and, and_false, true_and, and_true, and_self, or_true, true_or, or_false, false_or]; omega)⟩

set_option maxHeartbeats 4000000 in
set_option maxRecDepth 100000 in
theorem c_X3_readOnce {l : Launch} {Γ : zΓ} {G : zH} {w : Nat} {a b : Int} (hX : zXs Γ) (h1 : 1 ≤ G.1 704 (Γ.2.1 w 0) 0) (h2 : 0 ≤ G.1 402 w 0) (hab : a ≤ b) : zMet l Γ yX3_readOnce cX3_readOnce 4 (some .int) 2 [zr 4 w, zi a, zi b] G (zpi (fun x G' => zsm [402, 403, 404, 405, 406, 407, 408, 409, 410, 411, 412, 413, 2025, 206, 207, 2014, 2015, 2016, 2017, 2036, 2037, 2038, 2039, 2040, 2041, 2042, 2043, 609, 610, 611, 612] G G' ∧ (0 ≤ G'.1 402 w 0 ∧ a ≤ x ∧ x ≤ b))) := by
  refine zMet_of RX3 hX (by decide) rfl (Nat.le_of_ble_eq_true rfl) ?_
  intro p e s m args below meth c C hr hlk
  show Z p l e (zrm 2) s m args below meth c Γ 4 0 0 (MQ below (zQc Γ (zpi (fun x G' => zsm [402, 403, 404, 405, 406, 407, 408, 409, 410, 411, 412, 413, 2025, 206, 207, 2014, 2015, 2016, 2017, 2036, 2037, 2038, 2039, 2040, 2041, 2042, 2043, 609, 610, 611, 612] G G' ∧ (0 ≤ G'.1 402 w 0 ∧ a ≤ x ∧ x ≤ b)))) args s 0 0 (zA Γ)) 0 [some (zr 4 w), some (zi a), some (zi b), none] [] G
  refine zs_loc 1 rfl (fun ha1 hb1 => ?_)
  refine zs_loc 2 rfl (fun ha2 hb2 => ?_)
  refine zs_iconst (pc := 0) C dX3_readOnce_0 (by decide) ?_
  refine zs_aload_n (pc := 1) C dX3_readOnce_1 rfl ?_
  refine zs_geti (r := 405) (pc := 2) C dX3_readOnce_2 w_X3_70 f_4_5 rfl (r_405 0) (fun v2 e2 l2 u2 => ?_)
  refine zs_ishlF (pc := 5) C dX3_readOnce_5 (fun z5 hz51 hz52 => ?_)
  refine zs_istore_n (pc := 6) C dX3_readOnce_6 (by decide) ?_
  dsimp only [zset, zclr, znone]
  refine zs_aload_n (pc := 7) C dX3_readOnce_7 rfl ?_
  refine zs_geti (r := 406) (pc := 8) C dX3_readOnce_8 w_X3_45 f_4_6 rfl (r_406 0) (fun v8 e8 l8 u8 => ?_)
  refine zs_iload_n (pc := 11) C dX3_readOnce_11 rfl ?_
  first | refine zs_iand (pc := 12) C 1 dX3_readOnce_12 (by decide) (by decide) (fun z12 hz121 hz122 => ?_) | refine zs_iand (pc := 12) C 2 dX3_readOnce_12 (by decide) (by decide) (fun z12 hz121 hz122 => ?_) | refine zs_iand (pc := 12) C 8 dX3_readOnce_12 (by decide) (by decide) (fun z12 hz121 hz122 => ?_) | refine zs_iandF (pc := 12) C dX3_readOnce_12 (fun z12 hz121 hz122 => ?_)
  refine zs_if_eq (tgt := 23) (pc := 13) C dX3_readOnce_13 (by decide) (fun h13 => ?_) (fun h13 => ?_)
  · skip
    refine zs_aload_n (pc := 23) C dX3_readOnce_23 rfl ?_
    refine zs_dupa (pc := 24) C dX3_readOnce_24 ?_
    refine zs_geti (r := 406) (pc := 25) C dX3_readOnce_25 w_X3_45 f_4_6 rfl (r_406 0) (fun v25 e25 l25 u25 => ?_)
    refine zs_iload_n (pc := 28) C dX3_readOnce_28 rfl ?_
    refine zs_iorF (pc := 29) C dX3_readOnce_29 (fun z29 hz291 hz292 => ?_)
    refine zs_puti (r := 406) (pc := 30) C dX3_readOnce_30 w_X3_45 f_4_6 rfl (r_406 0) (by omega) ?_
    refine zs_aload_n (pc := 33) C dX3_readOnce_33 rfl ?_
    refine zVv0 (pc := 34) C dX3_readOnce_34 v_X3_51 (c_X3_next hX (by first | omega | (simp only [zuI_1, zuI_2, zuJ_1, zuJ_2, zuJ_3, zuP_1, zuP_2, zuP_3, zuC_1, zuC_2, reduceIte, Nat.reduceEqDiff, false_and, and_false, true_and, and_true, and_self, or_true, true_or, or_false, false_or]; omega))) (by decide) (by decide) ⟨Nat.zero_le _, Nat.zero_le _⟩ (Nat.le_of_ble_eq_true rfl) (fun G34 hp34 => ?_)
    obtain ⟨hz34, hq34⟩ := hp34
    try simp only [zuI_1, zuI_2, zuJ_1, zuJ_2, zuJ_3, zuP_1, zuP_2, zuP_3, zuC_1, zuC_2, reduceIte, Nat.reduceEqDiff, false_and, and_false, true_and, and_true, and_self, or_true, true_or, or_false, false_or] at hq34
    have tr34_704 := zsm_at hz34 704 (Γ.2.1 w 0) 0 (by decide)
    try simp only [zuI_1, zuI_2, zuJ_1, zuJ_2, zuJ_3, zuP_1, zuP_2, zuP_3, zuC_1, zuC_2, reduceIte, Nat.reduceEqDiff, false_and, and_false, true_and, and_true, and_self, or_true, true_or, or_false, false_or] at tr34_704
    have tr34_407 := zsm_at hz34 407 w 0 (by decide)
    try simp only [zuI_1, zuI_2, zuJ_1, zuJ_2, zuJ_3, zuP_1, zuP_2, zuP_3, zuC_1, zuC_2, reduceIte, Nat.reduceEqDiff, false_and, and_false, true_and, and_true, and_self, or_true, true_or, or_false, false_or] at tr34_407
    refine zs_aload_n (pc := 37) C dX3_readOnce_37 rfl ?_
    refine zs_iload_n (pc := 38) C dX3_readOnce_38 rfl ?_
    refine zs_iload_n (pc := 39) C dX3_readOnce_39 rfl ?_
    refine zVi2 (pc := 40) C dX3_readOnce_40 v_X3_121 (c_X3_readNumber hX (by omega) (by omega) (by omega)) (by decide) (by decide) ⟨Nat.zero_le _, Nat.zero_le _⟩ (Nat.le_of_ble_eq_true rfl) (fun x40 G40 l40 u40 hp40 => ?_)
    obtain ⟨hz40, hq40⟩ := hp40
    have tr40_704 := zsm_at hz40 704 (Γ.2.1 w 0) 0 (by decide)
    try simp only [zuI_1, zuI_2, zuJ_1, zuJ_2, zuJ_3, zuP_1, zuP_2, zuP_3, zuC_1, zuC_2, reduceIte, Nat.reduceEqDiff, false_and, and_false, true_and, and_true, and_self, or_true, true_or, or_false, false_or] at tr40_704
    exact zs_iret (pc := 43) C hr hlk dX3_readOnce_43 ⟨by repeat (first | exact zsm_rf | assumption | refine zsm_C (by decide) ?_ | refine zsm_I (by decide) ?_ | refine zsm_J ?_ | refine zsm_c (by assumption) (by decide) ?_), by first | omega | (simp only [zuI_1, zuI_2, zuJ_1, zuJ_2, zuJ_3, zuP_1, zuP_2, zuP_3, zuC_1, zuC_2, reduceIte, Nat.reduceEqDiff, false_and, and_false, true_and, and_true, and_self, or_true, true_or, or_false, false_or]; omega)⟩
  · skip
    refine zs_aload_n (pc := 16) C dX3_readOnce_16 rfl ?_
    refine zs_iconst (pc := 17) C dX3_readOnce_17 (by decide) ?_
    refine zVv1 (pc := 18) C dX3_readOnce_18 v_X3_114 (c_X3_fail hX (by omega) (by omega)) (by decide) (by decide) ⟨Nat.zero_le _, Nat.zero_le _⟩ (Nat.le_of_ble_eq_true rfl) (fun G18 hp18 => ?_)
    obtain ⟨hz18, hq18⟩ := hp18
    have tr18_704 := zsm_at hz18 704 (Γ.2.1 w 0) 0 (by decide)
    try simp only [zuI_1, zuI_2, zuJ_1, zuJ_2, zuJ_3, zuP_1, zuP_2, zuP_3, zuC_1, zuC_2, reduceIte, Nat.reduceEqDiff, false_and, and_false, true_and, and_true, and_self, or_true, true_or, or_false, false_or] at tr18_704
    have tr18_402 := zsm_at hz18 402 w 0 (by decide)
    try simp only [zuI_1, zuI_2, zuJ_1, zuJ_2, zuJ_3, zuP_1, zuP_2, zuP_3, zuC_1, zuC_2, reduceIte, Nat.reduceEqDiff, false_and, and_false, true_and, and_true, and_self, or_true, true_or, or_false, false_or] at tr18_402
    refine zs_iload_n (pc := 21) C dX3_readOnce_21 rfl ?_
    exact zs_iret (pc := 22) C hr hlk dX3_readOnce_22 ⟨by repeat (first | exact zsm_rf | assumption | refine zsm_C (by decide) ?_ | refine zsm_I (by decide) ?_ | refine zsm_J ?_ | refine zsm_c (by assumption) (by decide) ?_), by first | omega | (simp only [zuI_1, zuI_2, zuJ_1, zuJ_2, zuJ_3, zuP_1, zuP_2, zuP_3, zuC_1, zuC_2, reduceIte, Nat.reduceEqDiff, false_and, and_false, true_and, and_true, and_self, or_true, true_or, or_false, false_or]; omega)⟩

set_option maxHeartbeats 4000000 in
set_option maxRecDepth 100000 in
theorem c_X3_readNew {l : Launch} {Γ : zΓ} {G : zH} {w : Nat} {kd : Int} (hX : zXs Γ) (h1 : 1 ≤ G.1 704 (Γ.2.1 w 0) 0) (h2 : 0 ≤ G.1 402 w 0) (hk : 0 ≤ kd ∧ kd ≤ 3) : zMet l Γ yX3_readNew cX3_readNew 3 (some .int) 2 [zr 4 w, zi kd] G (zpi (fun x G' => zsm [402, 403, 404, 405, 406, 407, 408, 409, 410, 411, 412, 413, 2025, 206, 207, 2014, 2015, 2016, 2017, 2036, 2037, 2038, 2039, 2040, 2041, 2042, 2043, 609, 610, 611, 612] G G' ∧ (0 ≤ G'.1 402 w 0 ∧ 0 ≤ x ∧ x ≤ 4 ∧ (kd = 0 → x ≤ 3) ∧ (kd = 3 → x ≤ 2)))) := by
  refine zMet_of RX3 hX (by decide) rfl (Nat.le_of_ble_eq_true rfl) ?_
  intro p e s m args below meth c C hr hlk
  show Z p l e (zrm 2) s m args below meth c Γ 3 0 0 (MQ below (zQc Γ (zpi (fun x G' => zsm [402, 403, 404, 405, 406, 407, 408, 409, 410, 411, 412, 413, 2025, 206, 207, 2014, 2015, 2016, 2017, 2036, 2037, 2038, 2039, 2040, 2041, 2042, 2043, 609, 610, 611, 612] G G' ∧ (0 ≤ G'.1 402 w 0 ∧ 0 ≤ x ∧ x ≤ 4 ∧ (kd = 0 → x ≤ 3) ∧ (kd = 3 → x ≤ 2))))) args s 0 0 (zA Γ)) 0 [some (zr 4 w), some (zi kd), none] [] G
  refine zs_loc 1 rfl (fun ha1 hb1 => ?_)
  refine zs_aload_n (pc := 0) C dX3_readNew_0 rfl ?_
  refine zs_getd (r := 401) (pc := 1) C dX3_readNew_1 w_X3_21 f_4_1 (by decide) rfl (fun v1 e1 t1 => ?_)
  subst e1
  refine zs_getf (pc := 4) C dX3_readNew_4 w_X3_155 f_6_2 (by decide) ?_
  refine zs_iload_n (pc := 7) C dX3_readNew_7 rfl ?_
  refine zs_iald (r := 2037) (pc := 8) C dX3_readNew_8 a_37 (by decide) (by omega) rfl rfl (fun v8 e8 l8 u8 => ?_)
  have hs := rs_2037 kd.toNat
  refine zs_istore_n (pc := 9) C dX3_readNew_9 (by decide) ?_
  dsimp only [zset, zclr, znone]
  refine zs_aload_n (pc := 10) C dX3_readNew_10 rfl ?_
  refine zs_getd (r := 401) (pc := 11) C dX3_readNew_11 w_X3_21 f_4_1 (by decide) rfl (fun v11 e11 t11 => ?_)
  subst e11
  refine zs_iload_n (pc := 14) C dX3_readNew_14 rfl ?_
  refine zVip1 (pc := 15) C dX3_readNew_15 v_X3_158 (c_X5_isFull hX (by omega)) (by decide) (by decide) ⟨Nat.zero_le _, Nat.zero_le _⟩ (Nat.le_of_ble_eq_true rfl) (fun x15 l15 u15 hp15 => ?_)
  have hq15 := hp15
  refine zs_if_eq (tgt := 28) (pc := 18) C dX3_readNew_18 (by decide) (fun h18 => ?_) (fun h18 => ?_)
  · skip
    refine zs_aload_n (pc := 28) C dX3_readNew_28 rfl ?_
    refine zVv0 (pc := 29) C dX3_readNew_29 v_X3_51 (c_X3_next hX (by omega)) (by decide) (by decide) ⟨Nat.zero_le _, Nat.zero_le _⟩ (Nat.le_of_ble_eq_true rfl) (fun G29 hp29 => ?_)
    obtain ⟨hz29, hq29⟩ := hp29
    have tr29_704 := zsm_at hz29 704 (Γ.2.1 w 0) 0 (by decide)
    try simp only [zuI_1, zuI_2, zuJ_1, zuJ_2, zuJ_3, zuP_1, zuP_2, zuP_3, zuC_1, zuC_2, reduceIte, Nat.reduceEqDiff, false_and, and_false, true_and, and_true, and_self, or_true, true_or, or_false, false_or] at tr29_704
    have tr29_407 := zsm_at hz29 407 w 0 (by decide)
    try simp only [zuI_1, zuI_2, zuJ_1, zuJ_2, zuJ_3, zuP_1, zuP_2, zuP_3, zuC_1, zuC_2, reduceIte, Nat.reduceEqDiff, false_and, and_false, true_and, and_true, and_self, or_true, true_or, or_false, false_or] at tr29_407
    refine zs_aload_n (pc := 32) C dX3_readNew_32 rfl ?_
    refine zs_geti (r := 403) (pc := 33) C dX3_readNew_33 w_X3_54 f_4_3 rfl (r_403 0) (fun v33 e33 l33 u33 => ?_)
    refine zs_iconst (pc := 36) C dX3_readNew_36 (by decide) ?_
    refine zs_icmp_eq (tgt := 47) (pc := 37) C dX3_readNew_37 (by decide) (fun h37 => ?_) (fun h37 => ?_)
    · skip
      refine zs_aload_n (pc := 47) C dX3_readNew_47 rfl ?_
      refine zs_getd (r := 401) (pc := 48) C dX3_readNew_48 w_X3_21 f_4_1 (by decide) rfl (fun v48 e48 t48 => ?_)
      try simp only [hz29.2, zuI_1, zuI_2, zuJ_1, zuJ_2, zuJ_3, zuP_1, zuP_2, zuP_3, zuC_1, zuC_2, reduceIte, Nat.reduceEqDiff, false_and, and_false, true_and, and_true, and_self, or_true, true_or, or_false, false_or] at e48
      subst e48
      refine zs_iload_n (pc := 51) C dX3_readNew_51 rfl ?_
      refine zs_aload_n (pc := 52) C dX3_readNew_52 rfl ?_
      refine zs_geti (r := 404) (pc := 53) C dX3_readNew_53 w_X3_68 f_4_4 rfl (r_404 0) (fun v53 e53 l53 u53 => ?_)
      refine zVip2 (pc := 56) C dX3_readNew_56 v_X3_133 (c_X5_find hX (by omega)) (by decide) (by decide) ⟨Nat.zero_le _, Nat.zero_le _⟩ (Nat.le_of_ble_eq_true rfl) (fun x56 l56 u56 hp56 => ?_)
      have hq56 := hp56
      refine zs_iconst (pc := 59) C dX3_readNew_59 (by decide) ?_
      refine zs_icmp_eq (tgt := 70) (pc := 60) C dX3_readNew_60 (by decide) (fun h60 => ?_) (fun h60 => ?_)
      · skip
        refine zs_aload_n (pc := 70) C dX3_readNew_70 rfl ?_
        refine zs_getd (r := 401) (pc := 71) C dX3_readNew_71 w_X3_21 f_4_1 (by decide) rfl (fun v71 e71 t71 => ?_)
        try simp only [hz29.2, zuI_1, zuI_2, zuJ_1, zuJ_2, zuJ_3, zuP_1, zuP_2, zuP_3, zuC_1, zuC_2, reduceIte, Nat.reduceEqDiff, false_and, and_false, true_and, and_true, and_self, or_true, true_or, or_false, false_or] at e71
        subst e71
        refine zs_iload_n (pc := 74) C dX3_readNew_74 rfl ?_
        refine zs_aload_n (pc := 75) C dX3_readNew_75 rfl ?_
        refine zs_geti (r := 404) (pc := 76) C dX3_readNew_76 w_X3_68 f_4_4 rfl (r_404 0) (fun v76 e76 l76 u76 => ?_)
        refine zVv2 (pc := 79) C dX3_readNew_79 v_X3_161 (c_X5_add hX (by omega)) (by decide) (by decide) ⟨Nat.zero_le _, Nat.zero_le _⟩ (Nat.le_of_ble_eq_true rfl) (fun G79 hp79 => ?_)
        obtain ⟨hz79, hq79⟩ := hp79
        have tr79_704 := zsm_at hz79 704 (Γ.2.1 w 0) 0 (by decide)
        try simp only [zuI_1, zuI_2, zuJ_1, zuJ_2, zuJ_3, zuP_1, zuP_2, zuP_3, zuC_1, zuC_2, reduceIte, Nat.reduceEqDiff, false_and, and_false, true_and, and_true, and_self, or_true, true_or, or_false, false_or] at tr79_704
        have tr79_402 := zsm_at hz79 402 w 0 (by decide)
        try simp only [zuI_1, zuI_2, zuJ_1, zuJ_2, zuJ_3, zuP_1, zuP_2, zuP_3, zuC_1, zuC_2, reduceIte, Nat.reduceEqDiff, false_and, and_false, true_and, and_true, and_self, or_true, true_or, or_false, false_or] at tr79_402
        have tr79_407 := zsm_at hz79 407 w 0 (by decide)
        try simp only [zuI_1, zuI_2, zuJ_1, zuJ_2, zuJ_3, zuP_1, zuP_2, zuP_3, zuC_1, zuC_2, reduceIte, Nat.reduceEqDiff, false_and, and_false, true_and, and_true, and_self, or_true, true_or, or_false, false_or] at tr79_407
        refine zs_aload_n (pc := 82) C dX3_readNew_82 rfl ?_
        refine zVv0 (pc := 83) C dX3_readNew_83 v_X3_51 (c_X3_next hX (by omega)) (by decide) (by decide) ⟨Nat.zero_le _, Nat.zero_le _⟩ (Nat.le_of_ble_eq_true rfl) (fun G83 hp83 => ?_)
        obtain ⟨hz83, hq83⟩ := hp83
        have tr83_704 := zsm_at hz83 704 (Γ.2.1 w 0) 0 (by decide)
        try simp only [zuI_1, zuI_2, zuJ_1, zuJ_2, zuJ_3, zuP_1, zuP_2, zuP_3, zuC_1, zuC_2, reduceIte, Nat.reduceEqDiff, false_and, and_false, true_and, and_true, and_self, or_true, true_or, or_false, false_or] at tr83_704
        have tr83_407 := zsm_at hz83 407 w 0 (by decide)
        try simp only [zuI_1, zuI_2, zuJ_1, zuJ_2, zuJ_3, zuP_1, zuP_2, zuP_3, zuC_1, zuC_2, reduceIte, Nat.reduceEqDiff, false_and, and_false, true_and, and_true, and_self, or_true, true_or, or_false, false_or] at tr83_407
        refine zs_iload_n (pc := 86) C dX3_readNew_86 rfl ?_
        exact zs_iret (pc := 87) C hr hlk dX3_readNew_87 ⟨by repeat (first | exact zsm_rf | assumption | refine zsm_C (by decide) ?_ | refine zsm_I (by decide) ?_ | refine zsm_J ?_ | refine zsm_c (by assumption) (by decide) ?_), by first | omega | (simp only [zuI_1, zuI_2, zuJ_1, zuJ_2, zuJ_3, zuP_1, zuP_2, zuP_3, zuC_1, zuC_2, reduceIte, Nat.reduceEqDiff, false_and, and_false, true_and, and_true, and_self, or_true, true_or, or_false, false_or]; omega)⟩
      · skip
        refine zs_aload_n (pc := 63) C dX3_readNew_63 rfl ?_
        refine zs_iconst (pc := 64) C dX3_readNew_64 (by decide) ?_
        refine zVv1 (pc := 65) C dX3_readNew_65 v_X3_114 (c_X3_fail hX (by omega) (by omega)) (by decide) (by decide) ⟨Nat.zero_le _, Nat.zero_le _⟩ (Nat.le_of_ble_eq_true rfl) (fun G65 hp65 => ?_)
        obtain ⟨hz65, hq65⟩ := hp65
        have tr65_704 := zsm_at hz65 704 (Γ.2.1 w 0) 0 (by decide)
        try simp only [zuI_1, zuI_2, zuJ_1, zuJ_2, zuJ_3, zuP_1, zuP_2, zuP_3, zuC_1, zuC_2, reduceIte, Nat.reduceEqDiff, false_and, and_false, true_and, and_true, and_self, or_true, true_or, or_false, false_or] at tr65_704
        have tr65_402 := zsm_at hz65 402 w 0 (by decide)
        try simp only [zuI_1, zuI_2, zuJ_1, zuJ_2, zuJ_3, zuP_1, zuP_2, zuP_3, zuC_1, zuC_2, reduceIte, Nat.reduceEqDiff, false_and, and_false, true_and, and_true, and_self, or_true, true_or, or_false, false_or] at tr65_402
        refine zs_iconst (pc := 68) C dX3_readNew_68 (by decide) ?_
        exact zs_iret (pc := 69) C hr hlk dX3_readNew_69 ⟨by repeat (first | exact zsm_rf | assumption | refine zsm_C (by decide) ?_ | refine zsm_I (by decide) ?_ | refine zsm_J ?_ | refine zsm_c (by assumption) (by decide) ?_), by first | omega | (simp only [zuI_1, zuI_2, zuJ_1, zuJ_2, zuJ_3, zuP_1, zuP_2, zuP_3, zuC_1, zuC_2, reduceIte, Nat.reduceEqDiff, false_and, and_false, true_and, and_true, and_self, or_true, true_or, or_false, false_or]; omega)⟩
    · skip
      refine zs_aload_n (pc := 40) C dX3_readNew_40 rfl ?_
      refine zs_iconst (pc := 41) C dX3_readNew_41 (by decide) ?_
      refine zVv1 (pc := 42) C dX3_readNew_42 v_X3_114 (c_X3_fail hX (by omega) (by omega)) (by decide) (by decide) ⟨Nat.zero_le _, Nat.zero_le _⟩ (Nat.le_of_ble_eq_true rfl) (fun G42 hp42 => ?_)
      obtain ⟨hz42, hq42⟩ := hp42
      have tr42_704 := zsm_at hz42 704 (Γ.2.1 w 0) 0 (by decide)
      try simp only [zuI_1, zuI_2, zuJ_1, zuJ_2, zuJ_3, zuP_1, zuP_2, zuP_3, zuC_1, zuC_2, reduceIte, Nat.reduceEqDiff, false_and, and_false, true_and, and_true, and_self, or_true, true_or, or_false, false_or] at tr42_704
      have tr42_402 := zsm_at hz42 402 w 0 (by decide)
      try simp only [zuI_1, zuI_2, zuJ_1, zuJ_2, zuJ_3, zuP_1, zuP_2, zuP_3, zuC_1, zuC_2, reduceIte, Nat.reduceEqDiff, false_and, and_false, true_and, and_true, and_self, or_true, true_or, or_false, false_or] at tr42_402
      refine zs_iconst (pc := 45) C dX3_readNew_45 (by decide) ?_
      exact zs_iret (pc := 46) C hr hlk dX3_readNew_46 ⟨by repeat (first | exact zsm_rf | assumption | refine zsm_C (by decide) ?_ | refine zsm_I (by decide) ?_ | refine zsm_J ?_ | refine zsm_c (by assumption) (by decide) ?_), by first | omega | (simp only [zuI_1, zuI_2, zuJ_1, zuJ_2, zuJ_3, zuP_1, zuP_2, zuP_3, zuC_1, zuC_2, reduceIte, Nat.reduceEqDiff, false_and, and_false, true_and, and_true, and_self, or_true, true_or, or_false, false_or]; omega)⟩
  · skip
    refine zs_aload_n (pc := 21) C dX3_readNew_21 rfl ?_
    refine zs_iconst (pc := 22) C dX3_readNew_22 (by decide) ?_
    refine zVv1 (pc := 23) C dX3_readNew_23 v_X3_114 (c_X3_fail hX (by omega) (by omega)) (by decide) (by decide) ⟨Nat.zero_le _, Nat.zero_le _⟩ (Nat.le_of_ble_eq_true rfl) (fun G23 hp23 => ?_)
    obtain ⟨hz23, hq23⟩ := hp23
    have tr23_704 := zsm_at hz23 704 (Γ.2.1 w 0) 0 (by decide)
    try simp only [zuI_1, zuI_2, zuJ_1, zuJ_2, zuJ_3, zuP_1, zuP_2, zuP_3, zuC_1, zuC_2, reduceIte, Nat.reduceEqDiff, false_and, and_false, true_and, and_true, and_self, or_true, true_or, or_false, false_or] at tr23_704
    have tr23_402 := zsm_at hz23 402 w 0 (by decide)
    try simp only [zuI_1, zuI_2, zuJ_1, zuJ_2, zuJ_3, zuP_1, zuP_2, zuP_3, zuC_1, zuC_2, reduceIte, Nat.reduceEqDiff, false_and, and_false, true_and, and_true, and_self, or_true, true_or, or_false, false_or] at tr23_402
    refine zs_iconst (pc := 26) C dX3_readNew_26 (by decide) ?_
    exact zs_iret (pc := 27) C hr hlk dX3_readNew_27 ⟨by repeat (first | exact zsm_rf | assumption | refine zsm_C (by decide) ?_ | refine zsm_I (by decide) ?_ | refine zsm_J ?_ | refine zsm_c (by assumption) (by decide) ?_), by first | omega | (simp only [zuI_1, zuI_2, zuJ_1, zuJ_2, zuJ_3, zuP_1, zuP_2, zuP_3, zuC_1, zuC_2, reduceIte, Nat.reduceEqDiff, false_and, and_false, true_and, and_true, and_self, or_true, true_or, or_false, false_or]; omega)⟩

set_option maxHeartbeats 4000000 in
set_option maxRecDepth 100000 in
theorem c_X3_readKind {l : Launch} {Γ : zΓ} {G : zH} {w : Nat}  (hX : zXs Γ) (h1 : 1 ≤ G.1 704 (Γ.2.1 w 0) 0) (h2 : 0 ≤ G.1 402 w 0)  : zMet l Γ yX3_readKind cX3_readKind 2 (some .int) 1 [zr 4 w] G (zpi (fun x G' => zsm [402, 403, 404, 405, 406, 407, 408, 409, 410, 411, 412, 413, 2025, 206, 207, 2014, 2015, 2016, 2017, 2036, 2037, 2038, 2039, 2040, 2041, 2042, 2043, 609, 610, 611, 612] G G' ∧ (0 ≤ G'.1 402 w 0))) := by
  refine zMet_of RX3 hX (by decide) rfl (Nat.le_of_ble_eq_true rfl) ?_
  intro p e s m args below meth c C hr hlk
  show Z p l e (zrm 1) s m args below meth c Γ 2 0 0 (MQ below (zQc Γ (zpi (fun x G' => zsm [402, 403, 404, 405, 406, 407, 408, 409, 410, 411, 412, 413, 2025, 206, 207, 2014, 2015, 2016, 2017, 2036, 2037, 2038, 2039, 2040, 2041, 2042, 2043, 609, 610, 611, 612] G G' ∧ (0 ≤ G'.1 402 w 0)))) args s 0 0 (zA Γ)) 0 [some (zr 4 w), none] [] G
  refine zs_aload_n (pc := 0) C dX3_readKind_0 rfl ?_
  refine zVv0 (pc := 1) C dX3_readKind_1 v_X3_51 (c_X3_next hX (by omega)) (by decide) (by decide) ⟨Nat.zero_le _, Nat.zero_le _⟩ (Nat.le_of_ble_eq_true rfl) (fun G1 hp1 => ?_)
  obtain ⟨hz1, hq1⟩ := hp1
  have tr1_704 := zsm_at hz1 704 (Γ.2.1 w 0) 0 (by decide)
  try simp only [zuI_1, zuI_2, zuJ_1, zuJ_2, zuJ_3, zuP_1, zuP_2, zuP_3, zuC_1, zuC_2, reduceIte, Nat.reduceEqDiff, false_and, and_false, true_and, and_true, and_self, or_true, true_or, or_false, false_or] at tr1_704
  have tr1_407 := zsm_at hz1 407 w 0 (by decide)
  try simp only [zuI_1, zuI_2, zuJ_1, zuJ_2, zuJ_3, zuP_1, zuP_2, zuP_3, zuC_1, zuC_2, reduceIte, Nat.reduceEqDiff, false_and, and_false, true_and, and_true, and_self, or_true, true_or, or_false, false_or] at tr1_407
  refine zs_aload_n (pc := 4) C dX3_readKind_4 rfl ?_
  refine zs_geti (r := 405) (pc := 5) C dX3_readKind_5 w_X3_70 f_4_5 rfl (r_405 0) (fun v5 e5 l5 u5 => ?_)
  refine zs_bipush (pc := 8) C dX3_readKind_8 (by decide) (by decide) ?_
  first | refine zs_isub (pc := 10) C dX3_readKind_10 (by omega) ?_ | refine zs_isubF (pc := 10) C dX3_readKind_10 (fun z10 hz101 hz102 => ?_)
  refine zs_istore_n (pc := 11) C dX3_readKind_11 (by decide) ?_
  dsimp only [zset, zclr, znone]
  refine zs_aload_n (pc := 12) C dX3_readKind_12 rfl ?_
  refine zs_geti (r := 405) (pc := 13) C dX3_readKind_13 w_X3_70 f_4_5 rfl (r_405 0) (fun v13 e13 l13 u13 => ?_)
  refine zs_bipush (pc := 16) C dX3_readKind_16 (by decide) (by decide) ?_
  refine zs_icmp_lt (tgt := 30) (pc := 18) C dX3_readKind_18 (by decide) (fun h18 => ?_) (fun h18 => ?_)
  · skip
    refine zs_aload_n (pc := 30) C dX3_readKind_30 rfl ?_
    refine zs_iconst (pc := 31) C dX3_readKind_31 (by decide) ?_
    refine zVv1 (pc := 32) C dX3_readKind_32 v_X3_114 (c_X3_fail hX (by omega) (by omega)) (by decide) (by decide) ⟨Nat.zero_le _, Nat.zero_le _⟩ (Nat.le_of_ble_eq_true rfl) (fun G32 hp32 => ?_)
    obtain ⟨hz32, hq32⟩ := hp32
    have tr32_704 := zsm_at hz32 704 (Γ.2.1 w 0) 0 (by decide)
    try simp only [zuI_1, zuI_2, zuJ_1, zuJ_2, zuJ_3, zuP_1, zuP_2, zuP_3, zuC_1, zuC_2, reduceIte, Nat.reduceEqDiff, false_and, and_false, true_and, and_true, and_self, or_true, true_or, or_false, false_or] at tr32_704
    have tr32_402 := zsm_at hz32 402 w 0 (by decide)
    try simp only [zuI_1, zuI_2, zuJ_1, zuJ_2, zuJ_3, zuP_1, zuP_2, zuP_3, zuC_1, zuC_2, reduceIte, Nat.reduceEqDiff, false_and, and_false, true_and, and_true, and_self, or_true, true_or, or_false, false_or] at tr32_402
    refine zs_iconst (pc := 35) C dX3_readKind_35 (by decide) ?_
    exact zs_iret (pc := 36) C hr hlk dX3_readKind_36 ⟨by repeat (first | exact zsm_rf | assumption | refine zsm_C (by decide) ?_ | refine zsm_I (by decide) ?_ | refine zsm_J ?_ | refine zsm_c (by assumption) (by decide) ?_), by first | omega | (simp only [zuI_1, zuI_2, zuJ_1, zuJ_2, zuJ_3, zuP_1, zuP_2, zuP_3, zuC_1, zuC_2, reduceIte, Nat.reduceEqDiff, false_and, and_false, true_and, and_true, and_self, or_true, true_or, or_false, false_or]; omega)⟩
  · skip
    refine zs_aload_n (pc := 21) C dX3_readKind_21 rfl ?_
    refine zs_geti (r := 405) (pc := 22) C dX3_readKind_22 w_X3_70 f_4_5 rfl (r_405 0) (fun v22 e22 l22 u22 => ?_)
    refine zs_bipush (pc := 25) C dX3_readKind_25 (by decide) (by decide) ?_
    refine zs_icmp_le (tgt := 37) (pc := 27) C dX3_readKind_27 (by decide) (fun h27 => ?_) (fun h27 => ?_)
    · skip
      refine zs_aload_n (pc := 37) C dX3_readKind_37 rfl ?_
      refine zs_getd (r := 401) (pc := 38) C dX3_readKind_38 w_X3_21 f_4_1 (by decide) rfl (fun v38 e38 t38 => ?_)
      try simp only [hz1.2, zuI_1, zuI_2, zuJ_1, zuJ_2, zuJ_3, zuP_1, zuP_2, zuP_3, zuC_1, zuC_2, reduceIte, Nat.reduceEqDiff, false_and, and_false, true_and, and_true, and_self, or_true, true_or, or_false, false_or] at e38
      subst e38
      refine zs_getf (pc := 41) C dX3_readKind_41 w_X3_148 f_6_0 (by decide) ?_
      refine zs_iload_n (pc := 44) C dX3_readKind_44 rfl ?_
      refine zVip1 (pc := 45) C dX3_readKind_45 v_X3_152 (c_X1_isTold hX ) (by decide) (by decide) ⟨Nat.zero_le _, Nat.zero_le _⟩ (Nat.le_of_ble_eq_true rfl) (fun x45 l45 u45 hp45 => ?_)
      have hq45 := hp45
      refine zs_if_eq (tgt := 58) (pc := 48) C dX3_readKind_48 (by decide) (fun h48 => ?_) (fun h48 => ?_)
      · skip
        refine zs_aload_n (pc := 58) C dX3_readKind_58 rfl ?_
        refine zVv0 (pc := 59) C dX3_readKind_59 v_X3_51 (c_X3_next hX (by omega)) (by decide) (by decide) ⟨Nat.zero_le _, Nat.zero_le _⟩ (Nat.le_of_ble_eq_true rfl) (fun G59 hp59 => ?_)
        obtain ⟨hz59, hq59⟩ := hp59
        have tr59_704 := zsm_at hz59 704 (Γ.2.1 w 0) 0 (by decide)
        try simp only [zuI_1, zuI_2, zuJ_1, zuJ_2, zuJ_3, zuP_1, zuP_2, zuP_3, zuC_1, zuC_2, reduceIte, Nat.reduceEqDiff, false_and, and_false, true_and, and_true, and_self, or_true, true_or, or_false, false_or] at tr59_704
        have tr59_407 := zsm_at hz59 407 w 0 (by decide)
        try simp only [zuI_1, zuI_2, zuJ_1, zuJ_2, zuJ_3, zuP_1, zuP_2, zuP_3, zuC_1, zuC_2, reduceIte, Nat.reduceEqDiff, false_and, and_false, true_and, and_true, and_self, or_true, true_or, or_false, false_or] at tr59_407
        refine zs_iload_n (pc := 62) C dX3_readKind_62 rfl ?_
        exact zs_iret (pc := 63) C hr hlk dX3_readKind_63 ⟨by repeat (first | exact zsm_rf | assumption | refine zsm_C (by decide) ?_ | refine zsm_I (by decide) ?_ | refine zsm_J ?_ | refine zsm_c (by assumption) (by decide) ?_), by first | omega | (simp only [zuI_1, zuI_2, zuJ_1, zuJ_2, zuJ_3, zuP_1, zuP_2, zuP_3, zuC_1, zuC_2, reduceIte, Nat.reduceEqDiff, false_and, and_false, true_and, and_true, and_self, or_true, true_or, or_false, false_or]; omega)⟩
      · skip
        refine zs_aload_n (pc := 51) C dX3_readKind_51 rfl ?_
        refine zs_iconst (pc := 52) C dX3_readKind_52 (by decide) ?_
        refine zVv1 (pc := 53) C dX3_readKind_53 v_X3_114 (c_X3_fail hX (by omega) (by omega)) (by decide) (by decide) ⟨Nat.zero_le _, Nat.zero_le _⟩ (Nat.le_of_ble_eq_true rfl) (fun G53 hp53 => ?_)
        obtain ⟨hz53, hq53⟩ := hp53
        have tr53_704 := zsm_at hz53 704 (Γ.2.1 w 0) 0 (by decide)
        try simp only [zuI_1, zuI_2, zuJ_1, zuJ_2, zuJ_3, zuP_1, zuP_2, zuP_3, zuC_1, zuC_2, reduceIte, Nat.reduceEqDiff, false_and, and_false, true_and, and_true, and_self, or_true, true_or, or_false, false_or] at tr53_704
        have tr53_402 := zsm_at hz53 402 w 0 (by decide)
        try simp only [zuI_1, zuI_2, zuJ_1, zuJ_2, zuJ_3, zuP_1, zuP_2, zuP_3, zuC_1, zuC_2, reduceIte, Nat.reduceEqDiff, false_and, and_false, true_and, and_true, and_self, or_true, true_or, or_false, false_or] at tr53_402
        refine zs_iconst (pc := 56) C dX3_readKind_56 (by decide) ?_
        exact zs_iret (pc := 57) C hr hlk dX3_readKind_57 ⟨by repeat (first | exact zsm_rf | assumption | refine zsm_C (by decide) ?_ | refine zsm_I (by decide) ?_ | refine zsm_J ?_ | refine zsm_c (by assumption) (by decide) ?_), by first | omega | (simp only [zuI_1, zuI_2, zuJ_1, zuJ_2, zuJ_3, zuP_1, zuP_2, zuP_3, zuC_1, zuC_2, reduceIte, Nat.reduceEqDiff, false_and, and_false, true_and, and_true, and_self, or_true, true_or, or_false, false_or]; omega)⟩
    · skip
      refine zs_aload_n (pc := 30) C dX3_readKind_30 rfl ?_
      refine zs_iconst (pc := 31) C dX3_readKind_31 (by decide) ?_
      refine zVv1 (pc := 32) C dX3_readKind_32 v_X3_114 (c_X3_fail hX (by omega) (by omega)) (by decide) (by decide) ⟨Nat.zero_le _, Nat.zero_le _⟩ (Nat.le_of_ble_eq_true rfl) (fun G32 hp32 => ?_)
      obtain ⟨hz32, hq32⟩ := hp32
      have tr32_704 := zsm_at hz32 704 (Γ.2.1 w 0) 0 (by decide)
      try simp only [zuI_1, zuI_2, zuJ_1, zuJ_2, zuJ_3, zuP_1, zuP_2, zuP_3, zuC_1, zuC_2, reduceIte, Nat.reduceEqDiff, false_and, and_false, true_and, and_true, and_self, or_true, true_or, or_false, false_or] at tr32_704
      have tr32_402 := zsm_at hz32 402 w 0 (by decide)
      try simp only [zuI_1, zuI_2, zuJ_1, zuJ_2, zuJ_3, zuP_1, zuP_2, zuP_3, zuC_1, zuC_2, reduceIte, Nat.reduceEqDiff, false_and, and_false, true_and, and_true, and_self, or_true, true_or, or_false, false_or] at tr32_402
      refine zs_iconst (pc := 35) C dX3_readKind_35 (by decide) ?_
      exact zs_iret (pc := 36) C hr hlk dX3_readKind_36 ⟨by repeat (first | exact zsm_rf | assumption | refine zsm_C (by decide) ?_ | refine zsm_I (by decide) ?_ | refine zsm_J ?_ | refine zsm_c (by assumption) (by decide) ?_), by first | omega | (simp only [zuI_1, zuI_2, zuJ_1, zuJ_2, zuJ_3, zuP_1, zuP_2, zuP_3, zuC_1, zuC_2, reduceIte, Nat.reduceEqDiff, false_and, and_false, true_and, and_true, and_self, or_true, true_or, or_false, false_or]; omega)⟩

set_option maxHeartbeats 4000000 in
set_option maxRecDepth 100000 in
theorem c_X3_readSin {l : Launch} {Γ : zΓ} {G : zH} {w : Nat}  (hX : zXs Γ) (h1 : 1 ≤ G.1 704 (Γ.2.1 w 0) 0) (h2 : 0 ≤ G.1 402 w 0)  : zMet l Γ yX3_readSin cX3_readSin 3 none 3 [zr 4 w] G (zpv (fun G' => zsm [402, 403, 404, 405, 406, 407, 408, 409, 410, 411, 412, 413, 2025, 206, 207, 2014, 2015, 2016, 2017, 2036, 2037, 2038, 2039, 2040, 2041, 2042, 2043, 609, 610, 611, 612] G G' ∧ (0 ≤ G'.1 402 w 0))) := by
  refine zMet_of RX3 hX (by decide) rfl (Nat.le_of_ble_eq_true rfl) ?_
  intro p e s m args below meth c C hr hlk
  show Z p l e (zrm 3) s m args below meth c Γ 3 0 0 (MQ below (zQc Γ (zpv (fun G' => zsm [402, 403, 404, 405, 406, 407, 408, 409, 410, 411, 412, 413, 2025, 206, 207, 2014, 2015, 2016, 2017, 2036, 2037, 2038, 2039, 2040, 2041, 2042, 2043, 609, 610, 611, 612] G G' ∧ (0 ≤ G'.1 402 w 0)))) args s 0 0 (zA Γ)) 0 [some (zr 4 w), none, none] [] G
  refine zs_aload_n (pc := 0) C dX3_readSin_0 rfl ?_
  refine zs_iconst (pc := 1) C dX3_readSin_1 (by decide) ?_
  refine zVi1 (pc := 2) C dX3_readSin_2 v_X3_110 (c_X3_readNew hX (by omega) (by omega) (by omega)) (by decide) (by decide) ⟨Nat.zero_le _, Nat.zero_le _⟩ (Nat.le_of_ble_eq_true rfl) (fun x2 G2 l2 u2 hp2 => ?_)
  obtain ⟨hz2, hq2⟩ := hp2
  have tr2_704 := zsm_at hz2 704 (Γ.2.1 w 0) 0 (by decide)
  try simp only [zuI_1, zuI_2, zuJ_1, zuJ_2, zuJ_3, zuP_1, zuP_2, zuP_3, zuC_1, zuC_2, reduceIte, Nat.reduceEqDiff, false_and, and_false, true_and, and_true, and_self, or_true, true_or, or_false, false_or] at tr2_704
  refine zs_istore_n (pc := 5) C dX3_readSin_5 (by decide) ?_
  dsimp only [zset, zclr, znone]
  refine zs_aload_n (pc := 6) C dX3_readSin_6 rfl ?_
  refine zs_iconst (pc := 7) C dX3_readSin_7 (by decide) ?_
  refine zs_bipush (pc := 8) C dX3_readSin_8 (by decide) (by decide) ?_
  refine zVi2 (pc := 10) C dX3_readSin_10 v_X3_121 (c_X3_readNumber hX (by omega) (by omega) (by omega)) (by decide) (by decide) ⟨Nat.zero_le _, Nat.zero_le _⟩ (Nat.le_of_ble_eq_true rfl) (fun x10 G10 l10 u10 hp10 => ?_)
  obtain ⟨hz10, hq10⟩ := hp10
  have tr10_704 := zsm_at hz10 704 (Γ.2.1 w 0) 0 (by decide)
  try simp only [zuI_1, zuI_2, zuJ_1, zuJ_2, zuJ_3, zuP_1, zuP_2, zuP_3, zuC_1, zuC_2, reduceIte, Nat.reduceEqDiff, false_and, and_false, true_and, and_true, and_self, or_true, true_or, or_false, false_or] at tr10_704
  refine zs_istore_n (pc := 13) C dX3_readSin_13 (by decide) ?_
  dsimp only [zset, zclr, znone]
  refine zs_aload_n (pc := 14) C dX3_readSin_14 rfl ?_
  refine zs_geti (r := 407) (pc := 15) C dX3_readSin_15 w_X3_38 f_4_7 rfl (r_407 0) (fun v15 e15 l15 u15 => ?_)
  refine zs_if_ne (tgt := 31) (pc := 18) C dX3_readSin_18 (by decide) (fun h18 => ?_) (fun h18 => ?_)
  · skip
    exact zs_vret (pc := 31) C hr hlk dX3_readSin_31 ⟨by repeat (first | exact zsm_rf | assumption | refine zsm_C (by decide) ?_ | refine zsm_I (by decide) ?_ | refine zsm_J ?_ | refine zsm_c (by assumption) (by decide) ?_), by first | omega | (simp only [zuI_1, zuI_2, zuJ_1, zuJ_2, zuJ_3, zuP_1, zuP_2, zuP_3, zuC_1, zuC_2, reduceIte, Nat.reduceEqDiff, false_and, and_false, true_and, and_true, and_self, or_true, true_or, or_false, false_or]; omega)⟩
  · skip
    refine zs_aload_n (pc := 21) C dX3_readSin_21 rfl ?_
    refine zs_getd (r := 401) (pc := 22) C dX3_readSin_22 w_X3_21 f_4_1 (by decide) rfl (fun v22 e22 t22 => ?_)
    try simp only [hz2.2, hz10.2, zuI_1, zuI_2, zuJ_1, zuJ_2, zuJ_3, zuP_1, zuP_2, zuP_3, zuC_1, zuC_2, reduceIte, Nat.reduceEqDiff, false_and, and_false, true_and, and_true, and_self, or_true, true_or, or_false, false_or] at e22
    subst e22
    refine zs_getf (pc := 25) C dX3_readSin_25 w_X3_124 f_6_3 (by decide) ?_
    refine zs_iload_n (pc := 28) C dX3_readSin_28 rfl ?_
    refine zs_iload_n (pc := 29) C dX3_readSin_29 rfl ?_
    refine zs_iast (r := 2038) (pc := 30) C dX3_readSin_30 a_38 (by decide) (by omega) rfl (r_2038 _) (by omega) ?_
    exact zs_vret (pc := 31) C hr hlk dX3_readSin_31 ⟨by repeat (first | exact zsm_rf | assumption | refine zsm_C (by decide) ?_ | refine zsm_I (by decide) ?_ | refine zsm_J ?_ | refine zsm_c (by assumption) (by decide) ?_), by first | omega | (simp only [zuI_1, zuI_2, zuJ_1, zuJ_2, zuJ_3, zuP_1, zuP_2, zuP_3, zuC_1, zuC_2, reduceIte, Nat.reduceEqDiff, false_and, and_false, true_and, and_true, and_self, or_true, true_or, or_false, false_or]; omega)⟩

set_option maxHeartbeats 4000000 in
set_option maxRecDepth 100000 in
theorem c_X3_readCake {l : Launch} {Γ : zΓ} {G : zH} {w : Nat}  (hX : zXs Γ) (h1 : 1 ≤ G.1 704 (Γ.2.1 w 0) 0) (h2 : 0 ≤ G.1 402 w 0)  : zMet l Γ yX3_readCake cX3_readCake 5 none 3 [zr 4 w] G (zpv (fun G' => zsm [402, 403, 404, 405, 406, 407, 408, 409, 410, 411, 412, 413, 2025, 206, 207, 2014, 2015, 2016, 2017, 2036, 2037, 2038, 2039, 2040, 2041, 2042, 2043, 609, 610, 611, 612] G G' ∧ (0 ≤ G'.1 402 w 0))) := by
  refine zMet_of RX3 hX (by decide) rfl (Nat.le_of_ble_eq_true rfl) ?_
  intro p e s m args below meth c C hr hlk
  show Z p l e (zrm 3) s m args below meth c Γ 5 0 0 (MQ below (zQc Γ (zpv (fun G' => zsm [402, 403, 404, 405, 406, 407, 408, 409, 410, 411, 412, 413, 2025, 206, 207, 2014, 2015, 2016, 2017, 2036, 2037, 2038, 2039, 2040, 2041, 2042, 2043, 609, 610, 611, 612] G G' ∧ (0 ≤ G'.1 402 w 0)))) args s 0 0 (zA Γ)) 0 [some (zr 4 w), none, none, none, none] [] G
  refine zs_aload_n (pc := 0) C dX3_readCake_0 rfl ?_
  refine zs_iconst (pc := 1) C dX3_readCake_1 (by decide) ?_
  refine zVi1 (pc := 2) C dX3_readCake_2 v_X3_110 (c_X3_readNew hX (by omega) (by omega) (by omega)) (by decide) (by decide) ⟨Nat.zero_le _, Nat.zero_le _⟩ (Nat.le_of_ble_eq_true rfl) (fun x2 G2 l2 u2 hp2 => ?_)
  obtain ⟨hz2, hq2⟩ := hp2
  have tr2_704 := zsm_at hz2 704 (Γ.2.1 w 0) 0 (by decide)
  try simp only [zuI_1, zuI_2, zuJ_1, zuJ_2, zuJ_3, zuP_1, zuP_2, zuP_3, zuC_1, zuC_2, reduceIte, Nat.reduceEqDiff, false_and, and_false, true_and, and_true, and_self, or_true, true_or, or_false, false_or] at tr2_704
  refine zs_istore_n (pc := 5) C dX3_readCake_5 (by decide) ?_
  dsimp only [zset, zclr, znone]
  refine zs_aload_n (pc := 6) C dX3_readCake_6 rfl ?_
  refine zs_iconst (pc := 7) C dX3_readCake_7 (by decide) ?_
  refine zs_sipush (pc := 8) C dX3_readCake_8 (by decide) (by decide) ?_
  refine zVi2 (pc := 11) C dX3_readCake_11 v_X3_121 (c_X3_readNumber hX (by omega) (by omega) (by omega)) (by decide) (by decide) ⟨Nat.zero_le _, Nat.zero_le _⟩ (Nat.le_of_ble_eq_true rfl) (fun x11 G11 l11 u11 hp11 => ?_)
  obtain ⟨hz11, hq11⟩ := hp11
  have tr11_704 := zsm_at hz11 704 (Γ.2.1 w 0) 0 (by decide)
  try simp only [zuI_1, zuI_2, zuJ_1, zuJ_2, zuJ_3, zuP_1, zuP_2, zuP_3, zuC_1, zuC_2, reduceIte, Nat.reduceEqDiff, false_and, and_false, true_and, and_true, and_self, or_true, true_or, or_false, false_or] at tr11_704
  refine zs_istore_n (pc := 14) C dX3_readCake_14 (by decide) ?_
  dsimp only [zset, zclr, znone]
  refine zs_aload_n (pc := 15) C dX3_readCake_15 rfl ?_
  refine zs_iconst (pc := 16) C dX3_readCake_16 (by decide) ?_
  refine zs_bipush (pc := 17) C dX3_readCake_17 (by decide) (by decide) ?_
  refine zVi2 (pc := 19) C dX3_readCake_19 v_X3_121 (c_X3_readNumber hX (by omega) (by omega) (by omega)) (by decide) (by decide) ⟨Nat.zero_le _, Nat.zero_le _⟩ (Nat.le_of_ble_eq_true rfl) (fun x19 G19 l19 u19 hp19 => ?_)
  obtain ⟨hz19, hq19⟩ := hp19
  have tr19_704 := zsm_at hz19 704 (Γ.2.1 w 0) 0 (by decide)
  try simp only [zuI_1, zuI_2, zuJ_1, zuJ_2, zuJ_3, zuP_1, zuP_2, zuP_3, zuC_1, zuC_2, reduceIte, Nat.reduceEqDiff, false_and, and_false, true_and, and_true, and_self, or_true, true_or, or_false, false_or] at tr19_704
  refine zs_istore_n (pc := 22) C dX3_readCake_22 (by decide) ?_
  dsimp only [zset, zclr, znone]
  refine zs_aload_n (pc := 23) C dX3_readCake_23 rfl ?_
  refine zs_iconst (pc := 24) C dX3_readCake_24 (by decide) ?_
  refine zs_bipush (pc := 25) C dX3_readCake_25 (by decide) (by decide) ?_
  refine zVi2 (pc := 27) C dX3_readCake_27 v_X3_121 (c_X3_readNumber hX (by omega) (by omega) (by omega)) (by decide) (by decide) ⟨Nat.zero_le _, Nat.zero_le _⟩ (Nat.le_of_ble_eq_true rfl) (fun x27 G27 l27 u27 hp27 => ?_)
  obtain ⟨hz27, hq27⟩ := hp27
  have tr27_704 := zsm_at hz27 704 (Γ.2.1 w 0) 0 (by decide)
  try simp only [zuI_1, zuI_2, zuJ_1, zuJ_2, zuJ_3, zuP_1, zuP_2, zuP_3, zuC_1, zuC_2, reduceIte, Nat.reduceEqDiff, false_and, and_false, true_and, and_true, and_self, or_true, true_or, or_false, false_or] at tr27_704
  refine zs_istore (pc := 30) C dX3_readCake_30 (by decide) ?_
  dsimp only [zset, zclr, znone]
  refine zs_aload_n (pc := 32) C dX3_readCake_32 rfl ?_
  refine zs_geti (r := 407) (pc := 33) C dX3_readCake_33 w_X3_38 f_4_7 rfl (r_407 0) (fun v33 e33 l33 u33 => ?_)
  refine zs_if_ne (tgt := 70) (pc := 36) C dX3_readCake_36 (by decide) (fun h36 => ?_) (fun h36 => ?_)
  · skip
    exact zs_vret (pc := 70) C hr hlk dX3_readCake_70 ⟨by repeat (first | exact zsm_rf | assumption | refine zsm_C (by decide) ?_ | refine zsm_I (by decide) ?_ | refine zsm_J ?_ | refine zsm_c (by assumption) (by decide) ?_), by first | omega | (simp only [zuI_1, zuI_2, zuJ_1, zuJ_2, zuJ_3, zuP_1, zuP_2, zuP_3, zuC_1, zuC_2, reduceIte, Nat.reduceEqDiff, false_and, and_false, true_and, and_true, and_self, or_true, true_or, or_false, false_or]; omega)⟩
  · skip
    refine zs_aload_n (pc := 39) C dX3_readCake_39 rfl ?_
    refine zs_getd (r := 401) (pc := 40) C dX3_readCake_40 w_X3_21 f_4_1 (by decide) rfl (fun v40 e40 t40 => ?_)
    try simp only [hz2.2, hz11.2, hz19.2, hz27.2, zuI_1, zuI_2, zuJ_1, zuJ_2, zuJ_3, zuP_1, zuP_2, zuP_3, zuC_1, zuC_2, reduceIte, Nat.reduceEqDiff, false_and, and_false, true_and, and_true, and_self, or_true, true_or, or_false, false_or] at e40
    subst e40
    refine zs_getf (pc := 43) C dX3_readCake_43 w_X3_139 f_6_6 (by decide) ?_
    refine zs_iload_n (pc := 46) C dX3_readCake_46 rfl ?_
    refine zs_iload_n (pc := 47) C dX3_readCake_47 rfl ?_
    refine zs_iast (r := 2041) (pc := 48) C dX3_readCake_48 a_41 (by decide) (by omega) rfl (r_2041 _) (by omega) ?_
    refine zs_aload_n (pc := 49) C dX3_readCake_49 rfl ?_
    refine zs_getd (r := 401) (pc := 50) C dX3_readCake_50 w_X3_21 f_4_1 (by decide) rfl (fun v50 e50 t50 => ?_)
    try simp only [hz2.2, hz11.2, hz19.2, hz27.2, zuI_1, zuI_2, zuJ_1, zuJ_2, zuJ_3, zuP_1, zuP_2, zuP_3, zuC_1, zuC_2, reduceIte, Nat.reduceEqDiff, false_and, and_false, true_and, and_true, and_self, or_true, true_or, or_false, false_or] at e50
    subst e50
    refine zs_getf (pc := 53) C dX3_readCake_53 w_X3_142 f_6_7 (by decide) ?_
    refine zs_iload_n (pc := 56) C dX3_readCake_56 rfl ?_
    refine zs_iload_n (pc := 57) C dX3_readCake_57 rfl ?_
    refine zs_iast (r := 2042) (pc := 58) C dX3_readCake_58 a_42 (by decide) (by omega) rfl (r_2042 _) (by omega) ?_
    refine zs_aload_n (pc := 59) C dX3_readCake_59 rfl ?_
    refine zs_getd (r := 401) (pc := 60) C dX3_readCake_60 w_X3_21 f_4_1 (by decide) rfl (fun v60 e60 t60 => ?_)
    try simp only [hz2.2, hz11.2, hz19.2, hz27.2, zuI_1, zuI_2, zuJ_1, zuJ_2, zuJ_3, zuP_1, zuP_2, zuP_3, zuC_1, zuC_2, reduceIte, Nat.reduceEqDiff, false_and, and_false, true_and, and_true, and_self, or_true, true_or, or_false, false_or] at e60
    subst e60
    refine zs_getf (pc := 63) C dX3_readCake_63 w_X3_145 f_6_8 (by decide) ?_
    refine zs_iload_n (pc := 66) C dX3_readCake_66 rfl ?_
    refine zs_iload (pc := 67) C dX3_readCake_67 rfl ?_
    refine zs_iast (r := 2043) (pc := 69) C dX3_readCake_69 a_43 (by decide) (by omega) rfl (r_2043 _) (by omega) ?_
    exact zs_vret (pc := 70) C hr hlk dX3_readCake_70 ⟨by repeat (first | exact zsm_rf | assumption | refine zsm_C (by decide) ?_ | refine zsm_I (by decide) ?_ | refine zsm_J ?_ | refine zsm_c (by assumption) (by decide) ?_), by first | omega | (simp only [zuI_1, zuI_2, zuJ_1, zuJ_2, zuJ_3, zuP_1, zuP_2, zuP_3, zuC_1, zuC_2, reduceIte, Nat.reduceEqDiff, false_and, and_false, true_and, and_true, and_self, or_true, true_or, or_false, false_or]; omega)⟩

set_option maxHeartbeats 4000000 in
set_option maxRecDepth 100000 in
theorem c_X3_readDeed {l : Launch} {Γ : zΓ} {G : zH} {w : Nat} {p0 : Int} (hX : zXs Γ) (h1 : 1 ≤ G.1 704 (Γ.2.1 w 0) 0) (h2 : 0 ≤ G.1 402 w 0) (hp : 0 ≤ p0 ∧ p0 ≤ 4) : zMet l Γ yX3_readDeed cX3_readDeed 3 none 2 [zr 4 w, zi p0] G (zpv (fun G' => zsm [402, 403, 404, 405, 406, 407, 408, 409, 410, 411, 412, 413, 2025, 206, 207, 2014, 2015, 2016, 2017, 2036, 2037, 2038, 2039, 2040, 2041, 2042, 2043, 609, 610, 611, 612] G G' ∧ (0 ≤ G'.1 402 w 0))) := by
  refine zMet_of RX3 hX (by decide) rfl (Nat.le_of_ble_eq_true rfl) ?_
  intro p e s m args below meth c C hr hlk
  show Z p l e (zrm 2) s m args below meth c Γ 3 0 0 (MQ below (zQc Γ (zpv (fun G' => zsm [402, 403, 404, 405, 406, 407, 408, 409, 410, 411, 412, 413, 2025, 206, 207, 2014, 2015, 2016, 2017, 2036, 2037, 2038, 2039, 2040, 2041, 2042, 2043, 609, 610, 611, 612] G G' ∧ (0 ≤ G'.1 402 w 0)))) args s 0 0 (zA Γ)) 0 [some (zr 4 w), some (zi p0), none] [] G
  refine zs_loc 1 rfl (fun ha1 hb1 => ?_)
  refine zs_aload_n (pc := 0) C dX3_readDeed_0 rfl ?_
  refine zs_getd (r := 401) (pc := 1) C dX3_readDeed_1 w_X3_21 f_4_1 (by decide) rfl (fun v1 e1 t1 => ?_)
  subst e1
  refine zs_iconst (pc := 4) C dX3_readDeed_4 (by decide) ?_
  refine zs_aload_n (pc := 5) C dX3_readDeed_5 rfl ?_
  refine zs_geti (r := 404) (pc := 6) C dX3_readDeed_6 w_X3_68 f_4_4 rfl (r_404 0) (fun v6 e6 l6 u6 => ?_)
  refine zVip2 (pc := 9) C dX3_readDeed_9 v_X3_133 (c_X5_find hX (by omega)) (by decide) (by decide) ⟨Nat.zero_le _, Nat.zero_le _⟩ (Nat.le_of_ble_eq_true rfl) (fun x9 l9 u9 hp9 => ?_)
  have hq9 := hp9
  refine zs_istore_n (pc := 12) C dX3_readDeed_12 (by decide) ?_
  dsimp only [zset, zclr, znone]
  refine zs_aload_n (pc := 13) C dX3_readDeed_13 rfl ?_
  refine zs_geti (r := 403) (pc := 14) C dX3_readDeed_14 w_X3_54 f_4_3 rfl (r_403 0) (fun v14 e14 l14 u14 => ?_)
  refine zs_iconst (pc := 17) C dX3_readDeed_17 (by decide) ?_
  refine zs_icmp_eq (tgt := 29) (pc := 18) C dX3_readDeed_18 (by decide) (fun h18 => ?_) (fun h18 => ?_)
  · skip
    refine zs_iload_n (pc := 29) C dX3_readDeed_29 rfl ?_
    refine zs_iconst (pc := 30) C dX3_readDeed_30 (by decide) ?_
    refine zs_icmp_ne (tgt := 42) (pc := 31) C dX3_readDeed_31 (by decide) (fun h31 => ?_) (fun h31 => ?_)
    · skip
      refine zs_aload_n (pc := 42) C dX3_readDeed_42 rfl ?_
      refine zs_getd (r := 401) (pc := 43) C dX3_readDeed_43 w_X3_21 f_4_1 (by decide) rfl (fun v43 e43 t43 => ?_)
      subst e43
      refine zs_getf (pc := 46) C dX3_readDeed_46 w_X3_136 f_6_5 (by decide) ?_
      refine zs_iload_n (pc := 49) C dX3_readDeed_49 rfl ?_
      refine zs_iconst (pc := 50) C dX3_readDeed_50 (by decide) ?_
      first | refine zs_imul (pc := 51) C dX3_readDeed_51 (by omega) ?_ | refine zs_imulF (pc := 51) C dX3_readDeed_51 (fun z51 hz511 hz512 => ?_)
      refine zs_iload_n (pc := 52) C dX3_readDeed_52 rfl ?_
      first | refine zs_iadd (pc := 53) C dX3_readDeed_53 (by omega) ?_ | refine zs_iaddF (pc := 53) C dX3_readDeed_53 (fun z53 hz531 hz532 => ?_)
      refine zs_iald (r := 2040) (pc := 54) C dX3_readDeed_54 a_40 (by decide) (by omega) rfl (r_2040 _) (fun v54 e54 l54 u54 => ?_)
      refine zs_if_eq (tgt := 66) (pc := 55) C dX3_readDeed_55 (by decide) (fun h55 => ?_) (fun h55 => ?_)
      · skip
        refine zs_aload_n (pc := 66) C dX3_readDeed_66 rfl ?_
        refine zVv0 (pc := 67) C dX3_readDeed_67 v_X3_51 (c_X3_next hX (by omega)) (by decide) (by decide) ⟨Nat.zero_le _, Nat.zero_le _⟩ (Nat.le_of_ble_eq_true rfl) (fun G67 hp67 => ?_)
        obtain ⟨hz67, hq67⟩ := hp67
        have tr67_704 := zsm_at hz67 704 (Γ.2.1 w 0) 0 (by decide)
        try simp only [zuI_1, zuI_2, zuJ_1, zuJ_2, zuJ_3, zuP_1, zuP_2, zuP_3, zuC_1, zuC_2, reduceIte, Nat.reduceEqDiff, false_and, and_false, true_and, and_true, and_self, or_true, true_or, or_false, false_or] at tr67_704
        have tr67_407 := zsm_at hz67 407 w 0 (by decide)
        try simp only [zuI_1, zuI_2, zuJ_1, zuJ_2, zuJ_3, zuP_1, zuP_2, zuP_3, zuC_1, zuC_2, reduceIte, Nat.reduceEqDiff, false_and, and_false, true_and, and_true, and_self, or_true, true_or, or_false, false_or] at tr67_407
        refine zs_aload_n (pc := 70) C dX3_readDeed_70 rfl ?_
        refine zs_getd (r := 401) (pc := 71) C dX3_readDeed_71 w_X3_21 f_4_1 (by decide) rfl (fun v71 e71 t71 => ?_)
        try simp only [hz67.2, zuI_1, zuI_2, zuJ_1, zuJ_2, zuJ_3, zuP_1, zuP_2, zuP_3, zuC_1, zuC_2, reduceIte, Nat.reduceEqDiff, false_and, and_false, true_and, and_true, and_self, or_true, true_or, or_false, false_or] at e71
        subst e71
        refine zs_getf (pc := 74) C dX3_readDeed_74 w_X3_136 f_6_5 (by decide) ?_
        refine zs_iload_n (pc := 77) C dX3_readDeed_77 rfl ?_
        refine zs_iconst (pc := 78) C dX3_readDeed_78 (by decide) ?_
        first | refine zs_imul (pc := 79) C dX3_readDeed_79 (by omega) ?_ | refine zs_imulF (pc := 79) C dX3_readDeed_79 (fun z79 hz791 hz792 => ?_)
        refine zs_iload_n (pc := 80) C dX3_readDeed_80 rfl ?_
        first | refine zs_iadd (pc := 81) C dX3_readDeed_81 (by omega) ?_ | refine zs_iaddF (pc := 81) C dX3_readDeed_81 (fun z81 hz811 hz812 => ?_)
        refine zs_aload_n (pc := 82) C dX3_readDeed_82 rfl ?_
        refine zs_iconst (pc := 83) C dX3_readDeed_83 (by decide) ?_
        refine zs_bipush (pc := 84) C dX3_readDeed_84 (by decide) (by decide) ?_
        refine zVi2 (pc := 86) C dX3_readDeed_86 v_X3_121 (c_X3_readNumber hX (by omega) (by omega) (by omega)) (by decide) (by decide) ⟨Nat.zero_le _, Nat.zero_le _⟩ (Nat.le_of_ble_eq_true rfl) (fun x86 G86 l86 u86 hp86 => ?_)
        obtain ⟨hz86, hq86⟩ := hp86
        have tr86_704 := zsm_at hz86 704 (Γ.2.1 w 0) 0 (by decide)
        try simp only [zuI_1, zuI_2, zuJ_1, zuJ_2, zuJ_3, zuP_1, zuP_2, zuP_3, zuC_1, zuC_2, reduceIte, Nat.reduceEqDiff, false_and, and_false, true_and, and_true, and_self, or_true, true_or, or_false, false_or] at tr86_704
        refine zs_iast (r := 2040) (pc := 89) C dX3_readDeed_89 a_40 (by decide) (by omega) rfl (r_2040 _) (by omega) ?_
        exact zs_vret (pc := 90) C hr hlk dX3_readDeed_90 ⟨by repeat (first | exact zsm_rf | assumption | refine zsm_C (by decide) ?_ | refine zsm_I (by decide) ?_ | refine zsm_J ?_ | refine zsm_c (by assumption) (by decide) ?_), by first | omega | (simp only [zuI_1, zuI_2, zuJ_1, zuJ_2, zuJ_3, zuP_1, zuP_2, zuP_3, zuC_1, zuC_2, reduceIte, Nat.reduceEqDiff, false_and, and_false, true_and, and_true, and_self, or_true, true_or, or_false, false_or]; omega)⟩
      · skip
        refine zs_aload_n (pc := 58) C dX3_readDeed_58 rfl ?_
        refine zs_iconst (pc := 59) C dX3_readDeed_59 (by decide) ?_
        refine zVv1 (pc := 60) C dX3_readDeed_60 v_X3_114 (c_X3_fail hX (by omega) (by omega)) (by decide) (by decide) ⟨Nat.zero_le _, Nat.zero_le _⟩ (Nat.le_of_ble_eq_true rfl) (fun G60 hp60 => ?_)
        obtain ⟨hz60, hq60⟩ := hp60
        have tr60_704 := zsm_at hz60 704 (Γ.2.1 w 0) 0 (by decide)
        try simp only [zuI_1, zuI_2, zuJ_1, zuJ_2, zuJ_3, zuP_1, zuP_2, zuP_3, zuC_1, zuC_2, reduceIte, Nat.reduceEqDiff, false_and, and_false, true_and, and_true, and_self, or_true, true_or, or_false, false_or] at tr60_704
        have tr60_402 := zsm_at hz60 402 w 0 (by decide)
        try simp only [zuI_1, zuI_2, zuJ_1, zuJ_2, zuJ_3, zuP_1, zuP_2, zuP_3, zuC_1, zuC_2, reduceIte, Nat.reduceEqDiff, false_and, and_false, true_and, and_true, and_self, or_true, true_or, or_false, false_or] at tr60_402
        refine zs_goto (tgt := 90) (pc := 63) C dX3_readDeed_63 (by decide) ?_
        exact zs_vret (pc := 90) C hr hlk dX3_readDeed_90 ⟨by repeat (first | exact zsm_rf | assumption | refine zsm_C (by decide) ?_ | refine zsm_I (by decide) ?_ | refine zsm_J ?_ | refine zsm_c (by assumption) (by decide) ?_), by first | omega | (simp only [zuI_1, zuI_2, zuJ_1, zuJ_2, zuJ_3, zuP_1, zuP_2, zuP_3, zuC_1, zuC_2, reduceIte, Nat.reduceEqDiff, false_and, and_false, true_and, and_true, and_self, or_true, true_or, or_false, false_or]; omega)⟩
    · skip
      refine zs_aload_n (pc := 34) C dX3_readDeed_34 rfl ?_
      refine zs_iconst (pc := 35) C dX3_readDeed_35 (by decide) ?_
      refine zVv1 (pc := 36) C dX3_readDeed_36 v_X3_114 (c_X3_fail hX (by omega) (by omega)) (by decide) (by decide) ⟨Nat.zero_le _, Nat.zero_le _⟩ (Nat.le_of_ble_eq_true rfl) (fun G36 hp36 => ?_)
      obtain ⟨hz36, hq36⟩ := hp36
      have tr36_704 := zsm_at hz36 704 (Γ.2.1 w 0) 0 (by decide)
      try simp only [zuI_1, zuI_2, zuJ_1, zuJ_2, zuJ_3, zuP_1, zuP_2, zuP_3, zuC_1, zuC_2, reduceIte, Nat.reduceEqDiff, false_and, and_false, true_and, and_true, and_self, or_true, true_or, or_false, false_or] at tr36_704
      have tr36_402 := zsm_at hz36 402 w 0 (by decide)
      try simp only [zuI_1, zuI_2, zuJ_1, zuJ_2, zuJ_3, zuP_1, zuP_2, zuP_3, zuC_1, zuC_2, reduceIte, Nat.reduceEqDiff, false_and, and_false, true_and, and_true, and_self, or_true, true_or, or_false, false_or] at tr36_402
      refine zs_goto (tgt := 90) (pc := 39) C dX3_readDeed_39 (by decide) ?_
      exact zs_vret (pc := 90) C hr hlk dX3_readDeed_90 ⟨by repeat (first | exact zsm_rf | assumption | refine zsm_C (by decide) ?_ | refine zsm_I (by decide) ?_ | refine zsm_J ?_ | refine zsm_c (by assumption) (by decide) ?_), by first | omega | (simp only [zuI_1, zuI_2, zuJ_1, zuJ_2, zuJ_3, zuP_1, zuP_2, zuP_3, zuC_1, zuC_2, reduceIte, Nat.reduceEqDiff, false_and, and_false, true_and, and_true, and_self, or_true, true_or, or_false, false_or]; omega)⟩
  · skip
    refine zs_aload_n (pc := 21) C dX3_readDeed_21 rfl ?_
    refine zs_iconst (pc := 22) C dX3_readDeed_22 (by decide) ?_
    refine zVv1 (pc := 23) C dX3_readDeed_23 v_X3_114 (c_X3_fail hX (by omega) (by omega)) (by decide) (by decide) ⟨Nat.zero_le _, Nat.zero_le _⟩ (Nat.le_of_ble_eq_true rfl) (fun G23 hp23 => ?_)
    obtain ⟨hz23, hq23⟩ := hp23
    have tr23_704 := zsm_at hz23 704 (Γ.2.1 w 0) 0 (by decide)
    try simp only [zuI_1, zuI_2, zuJ_1, zuJ_2, zuJ_3, zuP_1, zuP_2, zuP_3, zuC_1, zuC_2, reduceIte, Nat.reduceEqDiff, false_and, and_false, true_and, and_true, and_self, or_true, true_or, or_false, false_or] at tr23_704
    have tr23_402 := zsm_at hz23 402 w 0 (by decide)
    try simp only [zuI_1, zuI_2, zuJ_1, zuJ_2, zuJ_3, zuP_1, zuP_2, zuP_3, zuC_1, zuC_2, reduceIte, Nat.reduceEqDiff, false_and, and_false, true_and, and_true, and_self, or_true, true_or, or_false, false_or] at tr23_402
    refine zs_goto (tgt := 90) (pc := 26) C dX3_readDeed_26 (by decide) ?_
    exact zs_vret (pc := 90) C hr hlk dX3_readDeed_90 ⟨by repeat (first | exact zsm_rf | assumption | refine zsm_C (by decide) ?_ | refine zsm_I (by decide) ?_ | refine zsm_J ?_ | refine zsm_c (by assumption) (by decide) ?_), by first | omega | (simp only [zuI_1, zuI_2, zuJ_1, zuJ_2, zuJ_3, zuP_1, zuP_2, zuP_3, zuC_1, zuC_2, reduceIte, Nat.reduceEqDiff, false_and, and_false, true_and, and_true, and_self, or_true, true_or, or_false, false_or]; omega)⟩

set_option maxHeartbeats 4000000 in
set_option maxRecDepth 100000 in
theorem c_X3_readPerson {l : Launch} {Γ : zΓ} {G : zH} {w : Nat}  (hX : zXs Γ) (h1 : 1 ≤ G.1 704 (Γ.2.1 w 0) 0) (h2 : 0 ≤ G.1 402 w 0)  : zMet l Γ yX3_readPerson cX3_readPerson 4 none 3 [zr 4 w] G (zpv (fun G' => zsm [402, 403, 404, 405, 406, 407, 408, 409, 410, 411, 412, 413, 2025, 206, 207, 2014, 2015, 2016, 2017, 2036, 2037, 2038, 2039, 2040, 2041, 2042, 2043, 609, 610, 611, 612] G G' ∧ (0 ≤ G'.1 402 w 0))) := by
  refine zMet_of RX3 hX (by decide) rfl (Nat.le_of_ble_eq_true rfl) ?_
  intro p e s m args below meth c C hr hlk
  show Z p l e (zrm 3) s m args below meth c Γ 4 0 0 (MQ below (zQc Γ (zpv (fun G' => zsm [402, 403, 404, 405, 406, 407, 408, 409, 410, 411, 412, 413, 2025, 206, 207, 2014, 2015, 2016, 2017, 2036, 2037, 2038, 2039, 2040, 2041, 2042, 2043, 609, 610, 611, 612] G G' ∧ (0 ≤ G'.1 402 w 0)))) args s 0 0 (zA Γ)) 0 [some (zr 4 w), none, none, none] [] G
  refine zs_aload_n (pc := 0) C dX3_readPerson_0 rfl ?_
  refine zs_iconst (pc := 1) C dX3_readPerson_1 (by decide) ?_
  refine zVi1 (pc := 2) C dX3_readPerson_2 v_X3_110 (c_X3_readNew hX (by omega) (by omega) (by omega)) (by decide) (by decide) ⟨Nat.zero_le _, Nat.zero_le _⟩ (Nat.le_of_ble_eq_true rfl) (fun x2 G2 l2 u2 hp2 => ?_)
  obtain ⟨hz2, hq2⟩ := hp2
  have tr2_704 := zsm_at hz2 704 (Γ.2.1 w 0) 0 (by decide)
  try simp only [zuI_1, zuI_2, zuJ_1, zuJ_2, zuJ_3, zuP_1, zuP_2, zuP_3, zuC_1, zuC_2, reduceIte, Nat.reduceEqDiff, false_and, and_false, true_and, and_true, and_self, or_true, true_or, or_false, false_or] at tr2_704
  refine zs_istore_n (pc := 5) C dX3_readPerson_5 (by decide) ?_
  dsimp only [zset, zclr, znone]
  refine zs_aload_n (pc := 6) C dX3_readPerson_6 rfl ?_
  refine zs_iconst (pc := 7) C dX3_readPerson_7 (by decide) ?_
  refine zs_bipush (pc := 8) C dX3_readPerson_8 (by decide) (by decide) ?_
  refine zVi2 (pc := 10) C dX3_readPerson_10 v_X3_121 (c_X3_readNumber hX (by omega) (by omega) (by omega)) (by decide) (by decide) ⟨Nat.zero_le _, Nat.zero_le _⟩ (Nat.le_of_ble_eq_true rfl) (fun x10 G10 l10 u10 hp10 => ?_)
  obtain ⟨hz10, hq10⟩ := hp10
  have tr10_704 := zsm_at hz10 704 (Γ.2.1 w 0) 0 (by decide)
  try simp only [zuI_1, zuI_2, zuJ_1, zuJ_2, zuJ_3, zuP_1, zuP_2, zuP_3, zuC_1, zuC_2, reduceIte, Nat.reduceEqDiff, false_and, and_false, true_and, and_true, and_self, or_true, true_or, or_false, false_or] at tr10_704
  refine zs_istore_n (pc := 13) C dX3_readPerson_13 (by decide) ?_
  dsimp only [zset, zclr, znone]
  refine zs_aload_n (pc := 14) C dX3_readPerson_14 rfl ?_
  refine zs_geti (r := 407) (pc := 15) C dX3_readPerson_15 w_X3_38 f_4_7 rfl (r_407 0) (fun v15 e15 l15 u15 => ?_)
  refine zs_if_ne (tgt := 31) (pc := 18) C dX3_readPerson_18 (by decide) (fun h18 => ?_) (fun h18 => ?_)
  · skip
    refine zs_iconst (pc := 31) C dX3_readPerson_31 (by decide) ?_
    refine zs_istore_n (pc := 32) C dX3_readPerson_32 (by decide) ?_
    dsimp only [zset, zclr, znone]
    have L33 : ∀ (nn : Nat) (x1 x3 : Int) (G1 : zH), (0 ≤ x1 ∧ x1 ≤ 4) → (0 ≤ x3 ∧ x3 ≤ 700) → (1 ≤ G1.1 704 (Γ.2.1 w 0) 0) → (0 ≤ G1.1 402 w 0) → (zsm [402, 403, 404, 405, 406, 407, 408, 409, 410, 411, 412, 413, 2025, 206, 207, 2014, 2015, 2016, 2017, 2036, 2037, 2038, 2039, 2040, 2041, 2042, 2043, 609, 610, 611, 612] G G1) → (700 - x3).toNat < nn → Z p l e (zrm 3) s m args below meth c Γ 4 0 0 (MQ below (zQc Γ (zpv (fun G' => zsm [402, 403, 404, 405, 406, 407, 408, 409, 410, 411, 412, 413, 2025, 206, 207, 2014, 2015, 2016, 2017, 2036, 2037, 2038, 2039, 2040, 2041, 2042, 2043, 609, 610, 611, 612] G G' ∧ (0 ≤ G'.1 402 w 0)))) args s 0 0 (zA Γ)) 33 [some (zr 4 w), some (zi x1), none, some (zi x3)] [] G1 := by
      intro nn
      induction nn with
      | zero => intro x1 x3 G1 h33_0 h33_1 h33_2 h33_3 h33_4 hm; exact absurd hm (Nat.not_lt_zero _)
      | succ nn ih33 =>
        intro x1 x3 G1 h33_0 h33_1 h33_2 h33_3 h33_4 hm33
        refine zs_iload_n (pc := 33) C dX3_readPerson_33 rfl ?_
        refine zs_sipush (pc := 34) C dX3_readPerson_34 (by decide) (by decide) ?_
        refine zs_icmp_ge (tgt := 70) (pc := 37) C dX3_readPerson_37 (by decide) (fun h37 => ?_) (fun h37 => ?_)
        · skip
          exact zs_vret (pc := 70) C hr hlk dX3_readPerson_70 ⟨by repeat (first | exact zsm_rf | assumption | refine zsm_C (by decide) ?_ | refine zsm_I (by decide) ?_ | refine zsm_J ?_ | refine zsm_c (by assumption) (by decide) ?_), by first | omega | (simp only [zuI_1, zuI_2, zuJ_1, zuJ_2, zuJ_3, zuP_1, zuP_2, zuP_3, zuC_1, zuC_2, reduceIte, Nat.reduceEqDiff, false_and, and_false, true_and, and_true, and_self, or_true, true_or, or_false, false_or]; omega)⟩
        · skip
          refine zs_aload_n (pc := 40) C dX3_readPerson_40 rfl ?_
          refine zs_geti (r := 407) (pc := 41) C dX3_readPerson_41 w_X3_38 f_4_7 rfl (r_407 0) (fun v41 e41 l41 u41 => ?_)
          refine zs_if_ne (tgt := 70) (pc := 44) C dX3_readPerson_44 (by decide) (fun h44 => ?_) (fun h44 => ?_)
          · skip
            exact zs_vret (pc := 70) C hr hlk dX3_readPerson_70 ⟨by repeat (first | exact zsm_rf | assumption | refine zsm_C (by decide) ?_ | refine zsm_I (by decide) ?_ | refine zsm_J ?_ | refine zsm_c (by assumption) (by decide) ?_), by first | omega | (simp only [zuI_1, zuI_2, zuJ_1, zuJ_2, zuJ_3, zuP_1, zuP_2, zuP_3, zuC_1, zuC_2, reduceIte, Nat.reduceEqDiff, false_and, and_false, true_and, and_true, and_self, or_true, true_or, or_false, false_or]; omega)⟩
          · skip
            refine zs_aload_n (pc := 47) C dX3_readPerson_47 rfl ?_
            refine zs_geti (r := 405) (pc := 48) C dX3_readPerson_48 w_X3_70 f_4_5 rfl (r_405 0) (fun v48 e48 l48 u48 => ?_)
            refine zs_iconst (pc := 51) C dX3_readPerson_51 (by decide) ?_
            refine zs_icmp_ne (tgt := 70) (pc := 52) C dX3_readPerson_52 (by decide) (fun h52 => ?_) (fun h52 => ?_)
            · skip
              exact zs_vret (pc := 70) C hr hlk dX3_readPerson_70 ⟨by repeat (first | exact zsm_rf | assumption | refine zsm_C (by decide) ?_ | refine zsm_I (by decide) ?_ | refine zsm_J ?_ | refine zsm_c (by assumption) (by decide) ?_), by first | omega | (simp only [zuI_1, zuI_2, zuJ_1, zuJ_2, zuJ_3, zuP_1, zuP_2, zuP_3, zuC_1, zuC_2, reduceIte, Nat.reduceEqDiff, false_and, and_false, true_and, and_true, and_self, or_true, true_or, or_false, false_or]; omega)⟩
            · skip
              refine zs_aload_n (pc := 55) C dX3_readPerson_55 rfl ?_
              refine zVv0 (pc := 56) C dX3_readPerson_56 v_X3_51 (c_X3_next hX (by omega)) (by decide) (by decide) ⟨Nat.zero_le _, Nat.zero_le _⟩ (Nat.le_of_ble_eq_true rfl) (fun G56 hp56 => ?_)
              obtain ⟨hz56, hq56⟩ := hp56
              have tr56_704 := zsm_at hz56 704 (Γ.2.1 w 0) 0 (by decide)
              try simp only [zuI_1, zuI_2, zuJ_1, zuJ_2, zuJ_3, zuP_1, zuP_2, zuP_3, zuC_1, zuC_2, reduceIte, Nat.reduceEqDiff, false_and, and_false, true_and, and_true, and_self, or_true, true_or, or_false, false_or] at tr56_704
              have tr56_407 := zsm_at hz56 407 w 0 (by decide)
              try simp only [zuI_1, zuI_2, zuJ_1, zuJ_2, zuJ_3, zuP_1, zuP_2, zuP_3, zuC_1, zuC_2, reduceIte, Nat.reduceEqDiff, false_and, and_false, true_and, and_true, and_self, or_true, true_or, or_false, false_or] at tr56_407
              refine zs_aload_n (pc := 59) C dX3_readPerson_59 rfl ?_
              refine zs_iload_n (pc := 60) C dX3_readPerson_60 rfl ?_
              refine zVv1 (pc := 61) C dX3_readPerson_61 v_X3_130 (c_X3_readDeed hX (by omega) (by omega) (by omega)) (by decide) (by decide) ⟨Nat.zero_le _, Nat.zero_le _⟩ (Nat.le_of_ble_eq_true rfl) (fun G61 hp61 => ?_)
              obtain ⟨hz61, hq61⟩ := hp61
              have tr61_704 := zsm_at hz61 704 (Γ.2.1 w 0) 0 (by decide)
              try simp only [zuI_1, zuI_2, zuJ_1, zuJ_2, zuJ_3, zuP_1, zuP_2, zuP_3, zuC_1, zuC_2, reduceIte, Nat.reduceEqDiff, false_and, and_false, true_and, and_true, and_self, or_true, true_or, or_false, false_or] at tr61_704
              first | refine zs_iinc (pc := 64) C dX3_readPerson_64 rfl (by decide) (by omega) ?_ | refine zs_iincF (pc := 64) C dX3_readPerson_64 rfl (by decide) (fun z64 hz641 hz642 => ?_)
              dsimp only [zset, zclr, znone]
              refine zs_goto (tgt := 33) (pc := 67) C dX3_readPerson_67 (by decide) ?_
              exact zs_wk (ih33 _ _ _ (by first | omega | (simp only [zuI_1, zuI_2, zuJ_1, zuJ_2, zuJ_3, zuP_1, zuP_2, zuP_3, zuC_1, zuC_2, reduceIte, Nat.reduceEqDiff, false_and, and_false, true_and, and_true, and_self, or_true, true_or, or_false, false_or]; omega)) (by first | omega | (simp only [zuI_1, zuI_2, zuJ_1, zuJ_2, zuJ_3, zuP_1, zuP_2, zuP_3, zuC_1, zuC_2, reduceIte, Nat.reduceEqDiff, false_and, and_false, true_and, and_true, and_self, or_true, true_or, or_false, false_or]; omega)) (by first | omega | (simp only [zuI_1, zuI_2, zuJ_1, zuJ_2, zuJ_3, zuP_1, zuP_2, zuP_3, zuC_1, zuC_2, reduceIte, Nat.reduceEqDiff, false_and, and_false, true_and, and_true, and_self, or_true, true_or, or_false, false_or]; omega)) (by first | omega | (simp only [zuI_1, zuI_2, zuJ_1, zuJ_2, zuJ_3, zuP_1, zuP_2, zuP_3, zuC_1, zuC_2, reduceIte, Nat.reduceEqDiff, false_and, and_false, true_and, and_true, and_self, or_true, true_or, or_false, false_or]; omega)) (by repeat (first | exact zsm_rf | assumption | refine zsm_C (by decide) ?_ | refine zsm_I (by decide) ?_ | refine zsm_J ?_ | refine zsm_c (by assumption) (by decide) ?_)) (by first | omega | (simp only [zuI_1, zuI_2, zuJ_1, zuJ_2, zuJ_3, zuP_1, zuP_2, zuP_3, zuC_1, zuC_2, reduceIte, Nat.reduceEqDiff, false_and, and_false, true_and, and_true, and_self, or_true, true_or, or_false, false_or]; omega))) (zwk_s rfl (zwk_s rfl (zwk_n (zwk_s rfl zwk_0))))
    exact zs_wk (L33 _ _ _ _ (by first | omega | (simp only [zuI_1, zuI_2, zuJ_1, zuJ_2, zuJ_3, zuP_1, zuP_2, zuP_3, zuC_1, zuC_2, reduceIte, Nat.reduceEqDiff, false_and, and_false, true_and, and_true, and_self, or_true, true_or, or_false, false_or]; omega)) (by first | omega | (simp only [zuI_1, zuI_2, zuJ_1, zuJ_2, zuJ_3, zuP_1, zuP_2, zuP_3, zuC_1, zuC_2, reduceIte, Nat.reduceEqDiff, false_and, and_false, true_and, and_true, and_self, or_true, true_or, or_false, false_or]; omega)) (by first | omega | (simp only [zuI_1, zuI_2, zuJ_1, zuJ_2, zuJ_3, zuP_1, zuP_2, zuP_3, zuC_1, zuC_2, reduceIte, Nat.reduceEqDiff, false_and, and_false, true_and, and_true, and_self, or_true, true_or, or_false, false_or]; omega)) (by first | omega | (simp only [zuI_1, zuI_2, zuJ_1, zuJ_2, zuJ_3, zuP_1, zuP_2, zuP_3, zuC_1, zuC_2, reduceIte, Nat.reduceEqDiff, false_and, and_false, true_and, and_true, and_self, or_true, true_or, or_false, false_or]; omega)) (by repeat (first | exact zsm_rf | assumption | refine zsm_C (by decide) ?_ | refine zsm_I (by decide) ?_ | refine zsm_J ?_ | refine zsm_c (by assumption) (by decide) ?_)) (Nat.lt_succ_self _)) (zwk_s rfl (zwk_s rfl (zwk_n (zwk_s rfl zwk_0))))
  · skip
    refine zs_aload_n (pc := 21) C dX3_readPerson_21 rfl ?_
    refine zs_getd (r := 401) (pc := 22) C dX3_readPerson_22 w_X3_21 f_4_1 (by decide) rfl (fun v22 e22 t22 => ?_)
    try simp only [hz2.2, hz10.2, zuI_1, zuI_2, zuJ_1, zuJ_2, zuJ_3, zuP_1, zuP_2, zuP_3, zuC_1, zuC_2, reduceIte, Nat.reduceEqDiff, false_and, and_false, true_and, and_true, and_self, or_true, true_or, or_false, false_or] at e22
    subst e22
    refine zs_getf (pc := 25) C dX3_readPerson_25 w_X3_127 f_6_4 (by decide) ?_
    refine zs_iload_n (pc := 28) C dX3_readPerson_28 rfl ?_
    refine zs_iload_n (pc := 29) C dX3_readPerson_29 rfl ?_
    refine zs_iast (r := 2039) (pc := 30) C dX3_readPerson_30 a_39 (by decide) (by omega) rfl (r_2039 _) (by omega) ?_
    refine zs_iconst (pc := 31) C dX3_readPerson_31 (by decide) ?_
    refine zs_istore_n (pc := 32) C dX3_readPerson_32 (by decide) ?_
    dsimp only [zset, zclr, znone]
    have L33 : ∀ (nn : Nat) (x1 x3 : Int) (G1 : zH), (0 ≤ x1 ∧ x1 ≤ 4) → (0 ≤ x3 ∧ x3 ≤ 700) → (1 ≤ G1.1 704 (Γ.2.1 w 0) 0) → (0 ≤ G1.1 402 w 0) → (zsm [402, 403, 404, 405, 406, 407, 408, 409, 410, 411, 412, 413, 2025, 206, 207, 2014, 2015, 2016, 2017, 2036, 2037, 2038, 2039, 2040, 2041, 2042, 2043, 609, 610, 611, 612] G G1) → (700 - x3).toNat < nn → Z p l e (zrm 3) s m args below meth c Γ 4 0 0 (MQ below (zQc Γ (zpv (fun G' => zsm [402, 403, 404, 405, 406, 407, 408, 409, 410, 411, 412, 413, 2025, 206, 207, 2014, 2015, 2016, 2017, 2036, 2037, 2038, 2039, 2040, 2041, 2042, 2043, 609, 610, 611, 612] G G' ∧ (0 ≤ G'.1 402 w 0)))) args s 0 0 (zA Γ)) 33 [some (zr 4 w), some (zi x1), none, some (zi x3)] [] G1 := by
      intro nn
      induction nn with
      | zero => intro x1 x3 G1 h33_0 h33_1 h33_2 h33_3 h33_4 hm; exact absurd hm (Nat.not_lt_zero _)
      | succ nn ih33 =>
        intro x1 x3 G1 h33_0 h33_1 h33_2 h33_3 h33_4 hm33
        refine zs_iload_n (pc := 33) C dX3_readPerson_33 rfl ?_
        refine zs_sipush (pc := 34) C dX3_readPerson_34 (by decide) (by decide) ?_
        refine zs_icmp_ge (tgt := 70) (pc := 37) C dX3_readPerson_37 (by decide) (fun h37 => ?_) (fun h37 => ?_)
        · skip
          exact zs_vret (pc := 70) C hr hlk dX3_readPerson_70 ⟨by repeat (first | exact zsm_rf | assumption | refine zsm_C (by decide) ?_ | refine zsm_I (by decide) ?_ | refine zsm_J ?_ | refine zsm_c (by assumption) (by decide) ?_), by first | omega | (simp only [zuI_1, zuI_2, zuJ_1, zuJ_2, zuJ_3, zuP_1, zuP_2, zuP_3, zuC_1, zuC_2, reduceIte, Nat.reduceEqDiff, false_and, and_false, true_and, and_true, and_self, or_true, true_or, or_false, false_or]; omega)⟩
        · skip
          refine zs_aload_n (pc := 40) C dX3_readPerson_40 rfl ?_
          refine zs_geti (r := 407) (pc := 41) C dX3_readPerson_41 w_X3_38 f_4_7 rfl (r_407 0) (fun v41 e41 l41 u41 => ?_)
          refine zs_if_ne (tgt := 70) (pc := 44) C dX3_readPerson_44 (by decide) (fun h44 => ?_) (fun h44 => ?_)
          · skip
            exact zs_vret (pc := 70) C hr hlk dX3_readPerson_70 ⟨by repeat (first | exact zsm_rf | assumption | refine zsm_C (by decide) ?_ | refine zsm_I (by decide) ?_ | refine zsm_J ?_ | refine zsm_c (by assumption) (by decide) ?_), by first | omega | (simp only [zuI_1, zuI_2, zuJ_1, zuJ_2, zuJ_3, zuP_1, zuP_2, zuP_3, zuC_1, zuC_2, reduceIte, Nat.reduceEqDiff, false_and, and_false, true_and, and_true, and_self, or_true, true_or, or_false, false_or]; omega)⟩
          · skip
            refine zs_aload_n (pc := 47) C dX3_readPerson_47 rfl ?_
            refine zs_geti (r := 405) (pc := 48) C dX3_readPerson_48 w_X3_70 f_4_5 rfl (r_405 0) (fun v48 e48 l48 u48 => ?_)
            refine zs_iconst (pc := 51) C dX3_readPerson_51 (by decide) ?_
            refine zs_icmp_ne (tgt := 70) (pc := 52) C dX3_readPerson_52 (by decide) (fun h52 => ?_) (fun h52 => ?_)
            · skip
              exact zs_vret (pc := 70) C hr hlk dX3_readPerson_70 ⟨by repeat (first | exact zsm_rf | assumption | refine zsm_C (by decide) ?_ | refine zsm_I (by decide) ?_ | refine zsm_J ?_ | refine zsm_c (by assumption) (by decide) ?_), by first | omega | (simp only [zuI_1, zuI_2, zuJ_1, zuJ_2, zuJ_3, zuP_1, zuP_2, zuP_3, zuC_1, zuC_2, reduceIte, Nat.reduceEqDiff, false_and, and_false, true_and, and_true, and_self, or_true, true_or, or_false, false_or]; omega)⟩
            · skip
              refine zs_aload_n (pc := 55) C dX3_readPerson_55 rfl ?_
              refine zVv0 (pc := 56) C dX3_readPerson_56 v_X3_51 (c_X3_next hX (by omega)) (by decide) (by decide) ⟨Nat.zero_le _, Nat.zero_le _⟩ (Nat.le_of_ble_eq_true rfl) (fun G56 hp56 => ?_)
              obtain ⟨hz56, hq56⟩ := hp56
              have tr56_704 := zsm_at hz56 704 (Γ.2.1 w 0) 0 (by decide)
              try simp only [zuI_1, zuI_2, zuJ_1, zuJ_2, zuJ_3, zuP_1, zuP_2, zuP_3, zuC_1, zuC_2, reduceIte, Nat.reduceEqDiff, false_and, and_false, true_and, and_true, and_self, or_true, true_or, or_false, false_or] at tr56_704
              have tr56_407 := zsm_at hz56 407 w 0 (by decide)
              try simp only [zuI_1, zuI_2, zuJ_1, zuJ_2, zuJ_3, zuP_1, zuP_2, zuP_3, zuC_1, zuC_2, reduceIte, Nat.reduceEqDiff, false_and, and_false, true_and, and_true, and_self, or_true, true_or, or_false, false_or] at tr56_407
              refine zs_aload_n (pc := 59) C dX3_readPerson_59 rfl ?_
              refine zs_iload_n (pc := 60) C dX3_readPerson_60 rfl ?_
              refine zVv1 (pc := 61) C dX3_readPerson_61 v_X3_130 (c_X3_readDeed hX (by omega) (by omega) (by omega)) (by decide) (by decide) ⟨Nat.zero_le _, Nat.zero_le _⟩ (Nat.le_of_ble_eq_true rfl) (fun G61 hp61 => ?_)
              obtain ⟨hz61, hq61⟩ := hp61
              have tr61_704 := zsm_at hz61 704 (Γ.2.1 w 0) 0 (by decide)
              try simp only [zuI_1, zuI_2, zuJ_1, zuJ_2, zuJ_3, zuP_1, zuP_2, zuP_3, zuC_1, zuC_2, reduceIte, Nat.reduceEqDiff, false_and, and_false, true_and, and_true, and_self, or_true, true_or, or_false, false_or] at tr61_704
              first | refine zs_iinc (pc := 64) C dX3_readPerson_64 rfl (by decide) (by omega) ?_ | refine zs_iincF (pc := 64) C dX3_readPerson_64 rfl (by decide) (fun z64 hz641 hz642 => ?_)
              dsimp only [zset, zclr, znone]
              refine zs_goto (tgt := 33) (pc := 67) C dX3_readPerson_67 (by decide) ?_
              exact zs_wk (ih33 _ _ _ (by first | omega | (simp only [zuI_1, zuI_2, zuJ_1, zuJ_2, zuJ_3, zuP_1, zuP_2, zuP_3, zuC_1, zuC_2, reduceIte, Nat.reduceEqDiff, false_and, and_false, true_and, and_true, and_self, or_true, true_or, or_false, false_or]; omega)) (by first | omega | (simp only [zuI_1, zuI_2, zuJ_1, zuJ_2, zuJ_3, zuP_1, zuP_2, zuP_3, zuC_1, zuC_2, reduceIte, Nat.reduceEqDiff, false_and, and_false, true_and, and_true, and_self, or_true, true_or, or_false, false_or]; omega)) (by first | omega | (simp only [zuI_1, zuI_2, zuJ_1, zuJ_2, zuJ_3, zuP_1, zuP_2, zuP_3, zuC_1, zuC_2, reduceIte, Nat.reduceEqDiff, false_and, and_false, true_and, and_true, and_self, or_true, true_or, or_false, false_or]; omega)) (by first | omega | (simp only [zuI_1, zuI_2, zuJ_1, zuJ_2, zuJ_3, zuP_1, zuP_2, zuP_3, zuC_1, zuC_2, reduceIte, Nat.reduceEqDiff, false_and, and_false, true_and, and_true, and_self, or_true, true_or, or_false, false_or]; omega)) (by repeat (first | exact zsm_rf | assumption | refine zsm_C (by decide) ?_ | refine zsm_I (by decide) ?_ | refine zsm_J ?_ | refine zsm_c (by assumption) (by decide) ?_)) (by first | omega | (simp only [zuI_1, zuI_2, zuJ_1, zuJ_2, zuJ_3, zuP_1, zuP_2, zuP_3, zuC_1, zuC_2, reduceIte, Nat.reduceEqDiff, false_and, and_false, true_and, and_true, and_self, or_true, true_or, or_false, false_or]; omega))) (zwk_s rfl (zwk_s rfl (zwk_n (zwk_s rfl zwk_0))))
    exact zs_wk (L33 _ _ _ _ (by first | omega | (simp only [zuI_1, zuI_2, zuJ_1, zuJ_2, zuJ_3, zuP_1, zuP_2, zuP_3, zuC_1, zuC_2, reduceIte, Nat.reduceEqDiff, false_and, and_false, true_and, and_true, and_self, or_true, true_or, or_false, false_or]; omega)) (by first | omega | (simp only [zuI_1, zuI_2, zuJ_1, zuJ_2, zuJ_3, zuP_1, zuP_2, zuP_3, zuC_1, zuC_2, reduceIte, Nat.reduceEqDiff, false_and, and_false, true_and, and_true, and_self, or_true, true_or, or_false, false_or]; omega)) (by first | omega | (simp only [zuI_1, zuI_2, zuJ_1, zuJ_2, zuJ_3, zuP_1, zuP_2, zuP_3, zuC_1, zuC_2, reduceIte, Nat.reduceEqDiff, false_and, and_false, true_and, and_true, and_self, or_true, true_or, or_false, false_or]; omega)) (by first | omega | (simp only [zuI_1, zuI_2, zuJ_1, zuJ_2, zuJ_3, zuP_1, zuP_2, zuP_3, zuC_1, zuC_2, reduceIte, Nat.reduceEqDiff, false_and, and_false, true_and, and_true, and_self, or_true, true_or, or_false, false_or]; omega)) (by repeat (first | exact zsm_rf | assumption | refine zsm_C (by decide) ?_ | refine zsm_I (by decide) ?_ | refine zsm_J ?_ | refine zsm_c (by assumption) (by decide) ?_)) (Nat.lt_succ_self _)) (zwk_s rfl (zwk_s rfl (zwk_n (zwk_s rfl zwk_0))))

set_option maxHeartbeats 4000000 in
set_option maxRecDepth 100000 in
theorem c_X3_countKnot {l : Launch} {Γ : zΓ} {G : zH} {w : Nat}  (hX : zXs Γ) (h1 : 1 ≤ G.1 704 (Γ.2.1 w 0) 0) (h2 : 0 ≤ G.1 402 w 0)  : zMet l Γ yX3_countKnot cX3_countKnot 1 (some .boolean) 1 [zr 4 w] G (zpi (fun x G' => zsm [402, 403, 404, 405, 406, 407, 408, 409, 410, 411, 412, 413, 2025, 206, 207, 2014, 2015, 2016, 2017, 2036, 2037, 2038, 2039, 2040, 2041, 2042, 2043, 609, 610, 611, 612] G G' ∧ (0 ≤ G'.1 402 w 0 ∧ (x = 0 ∨ x = 1)))) := by
  refine zMet_of RX3 hX (by decide) rfl (Nat.le_of_ble_eq_true rfl) ?_
  intro p e s m args below meth c C hr hlk
  show Z p l e (zrm 1) s m args below meth c Γ 1 0 0 (MQ below (zQc Γ (zpi (fun x G' => zsm [402, 403, 404, 405, 406, 407, 408, 409, 410, 411, 412, 413, 2025, 206, 207, 2014, 2015, 2016, 2017, 2036, 2037, 2038, 2039, 2040, 2041, 2042, 2043, 609, 610, 611, 612] G G' ∧ (0 ≤ G'.1 402 w 0 ∧ (x = 0 ∨ x = 1))))) args s 0 0 (zA Γ)) 0 [some (zr 4 w)] [] G
  refine zs_aload_n (pc := 0) C dX3_countKnot_0 rfl ?_
  refine zs_getd (r := 401) (pc := 1) C dX3_countKnot_1 w_X3_21 f_4_1 (by decide) rfl (fun v1 e1 t1 => ?_)
  subst e1
  refine zs_getf (pc := 4) C dX3_countKnot_4 w_X3_148 f_6_0 (by decide) ?_
  refine zs_geti (r := 207) (pc := 7) C dX3_countKnot_7 w_X3_223 f_2_7 rfl (r_207 0) (fun v7 e7 l7 u7 => ?_)
  refine zs_bipush (pc := 10) C dX3_countKnot_10 (by decide) (by decide) ?_
  refine zs_icmp_lt (tgt := 20) (pc := 12) C dX3_countKnot_12 (by decide) (fun h12 => ?_) (fun h12 => ?_)
  · skip
    refine zs_aload_n (pc := 20) C dX3_countKnot_20 rfl ?_
    refine zs_geti (r := 407) (pc := 21) C dX3_countKnot_21 w_X3_38 f_4_7 rfl (r_407 0) (fun v21 e21 l21 u21 => ?_)
    refine zs_if_eq (tgt := 29) (pc := 24) C dX3_countKnot_24 (by decide) (fun h24 => ?_) (fun h24 => ?_)
    · skip
      refine zs_aload_n (pc := 29) C dX3_countKnot_29 rfl ?_
      refine zs_getd (r := 401) (pc := 30) C dX3_countKnot_30 w_X3_21 f_4_1 (by decide) rfl (fun v30 e30 t30 => ?_)
      subst e30
      refine zs_getf (pc := 33) C dX3_countKnot_33 w_X3_148 f_6_0 (by decide) ?_
      refine zs_dupa (pc := 36) C dX3_countKnot_36 ?_
      refine zs_geti (r := 207) (pc := 37) C dX3_countKnot_37 w_X3_223 f_2_7 rfl (r_207 0) (fun v37 e37 l37 u37 => ?_)
      refine zs_iconst (pc := 40) C dX3_countKnot_40 (by decide) ?_
      first | refine zs_iadd (pc := 41) C dX3_countKnot_41 (by omega) ?_ | refine zs_iaddF (pc := 41) C dX3_countKnot_41 (fun z41 hz411 hz412 => ?_)
      refine zs_puti (r := 207) (pc := 42) C dX3_countKnot_42 w_X3_223 f_2_7 rfl (r_207 0) (by omega) ?_
      refine zs_iconst (pc := 45) C dX3_countKnot_45 (by decide) ?_
      exact zs_zret (pc := 46) C hr hlk dX3_countKnot_46 (by omega) ⟨by repeat (first | exact zsm_rf | assumption | refine zsm_C (by decide) ?_ | refine zsm_I (by decide) ?_ | refine zsm_J ?_ | refine zsm_c (by assumption) (by decide) ?_), by first | omega | (simp only [zuI_1, zuI_2, zuJ_1, zuJ_2, zuJ_3, zuP_1, zuP_2, zuP_3, zuC_1, zuC_2, reduceIte, Nat.reduceEqDiff, false_and, and_false, true_and, and_true, and_self, or_true, true_or, or_false, false_or]; omega)⟩
    · skip
      refine zs_iconst (pc := 27) C dX3_countKnot_27 (by decide) ?_
      exact zs_zret (pc := 28) C hr hlk dX3_countKnot_28 (by omega) ⟨by repeat (first | exact zsm_rf | assumption | refine zsm_C (by decide) ?_ | refine zsm_I (by decide) ?_ | refine zsm_J ?_ | refine zsm_c (by assumption) (by decide) ?_), by first | omega | (simp only [zuI_1, zuI_2, zuJ_1, zuJ_2, zuJ_3, zuP_1, zuP_2, zuP_3, zuC_1, zuC_2, reduceIte, Nat.reduceEqDiff, false_and, and_false, true_and, and_true, and_self, or_true, true_or, or_false, false_or]; omega)⟩
  · skip
    refine zs_aload_n (pc := 15) C dX3_countKnot_15 rfl ?_
    refine zs_iconst (pc := 16) C dX3_countKnot_16 (by decide) ?_
    refine zVv1 (pc := 17) C dX3_countKnot_17 v_X3_114 (c_X3_fail hX (by omega) (by omega)) (by decide) (by decide) ⟨Nat.zero_le _, Nat.zero_le _⟩ (Nat.le_of_ble_eq_true rfl) (fun G17 hp17 => ?_)
    obtain ⟨hz17, hq17⟩ := hp17
    have tr17_704 := zsm_at hz17 704 (Γ.2.1 w 0) 0 (by decide)
    try simp only [zuI_1, zuI_2, zuJ_1, zuJ_2, zuJ_3, zuP_1, zuP_2, zuP_3, zuC_1, zuC_2, reduceIte, Nat.reduceEqDiff, false_and, and_false, true_and, and_true, and_self, or_true, true_or, or_false, false_or] at tr17_704
    have tr17_402 := zsm_at hz17 402 w 0 (by decide)
    try simp only [zuI_1, zuI_2, zuJ_1, zuJ_2, zuJ_3, zuP_1, zuP_2, zuP_3, zuC_1, zuC_2, reduceIte, Nat.reduceEqDiff, false_and, and_false, true_and, and_true, and_self, or_true, true_or, or_false, false_or] at tr17_402
    refine zs_aload_n (pc := 20) C dX3_countKnot_20 rfl ?_
    refine zs_geti (r := 407) (pc := 21) C dX3_countKnot_21 w_X3_38 f_4_7 rfl (r_407 0) (fun v21 e21 l21 u21 => ?_)
    refine zs_if_eq (tgt := 29) (pc := 24) C dX3_countKnot_24 (by decide) (fun h24 => ?_) (fun h24 => ?_)
    · skip
      refine zs_aload_n (pc := 29) C dX3_countKnot_29 rfl ?_
      refine zs_getd (r := 401) (pc := 30) C dX3_countKnot_30 w_X3_21 f_4_1 (by decide) rfl (fun v30 e30 t30 => ?_)
      try simp only [hz17.2, zuI_1, zuI_2, zuJ_1, zuJ_2, zuJ_3, zuP_1, zuP_2, zuP_3, zuC_1, zuC_2, reduceIte, Nat.reduceEqDiff, false_and, and_false, true_and, and_true, and_self, or_true, true_or, or_false, false_or] at e30
      subst e30
      refine zs_getf (pc := 33) C dX3_countKnot_33 w_X3_148 f_6_0 (by decide) ?_
      refine zs_dupa (pc := 36) C dX3_countKnot_36 ?_
      refine zs_geti (r := 207) (pc := 37) C dX3_countKnot_37 w_X3_223 f_2_7 rfl (r_207 0) (fun v37 e37 l37 u37 => ?_)
      refine zs_iconst (pc := 40) C dX3_countKnot_40 (by decide) ?_
      first | refine zs_iadd (pc := 41) C dX3_countKnot_41 (by omega) ?_ | refine zs_iaddF (pc := 41) C dX3_countKnot_41 (fun z41 hz411 hz412 => ?_)
      refine zs_puti (r := 207) (pc := 42) C dX3_countKnot_42 w_X3_223 f_2_7 rfl (r_207 0) (by omega) ?_
      refine zs_iconst (pc := 45) C dX3_countKnot_45 (by decide) ?_
      exact zs_zret (pc := 46) C hr hlk dX3_countKnot_46 (by omega) ⟨by repeat (first | exact zsm_rf | assumption | refine zsm_C (by decide) ?_ | refine zsm_I (by decide) ?_ | refine zsm_J ?_ | refine zsm_c (by assumption) (by decide) ?_), by first | omega | (simp only [zuI_1, zuI_2, zuJ_1, zuJ_2, zuJ_3, zuP_1, zuP_2, zuP_3, zuC_1, zuC_2, reduceIte, Nat.reduceEqDiff, false_and, and_false, true_and, and_true, and_self, or_true, true_or, or_false, false_or]; omega)⟩
    · skip
      refine zs_iconst (pc := 27) C dX3_countKnot_27 (by decide) ?_
      exact zs_zret (pc := 28) C hr hlk dX3_countKnot_28 (by omega) ⟨by repeat (first | exact zsm_rf | assumption | refine zsm_C (by decide) ?_ | refine zsm_I (by decide) ?_ | refine zsm_J ?_ | refine zsm_c (by assumption) (by decide) ?_), by first | omega | (simp only [zuI_1, zuI_2, zuJ_1, zuJ_2, zuJ_3, zuP_1, zuP_2, zuP_3, zuC_1, zuC_2, reduceIte, Nat.reduceEqDiff, false_and, and_false, true_and, and_true, and_self, or_true, true_or, or_false, false_or]; omega)⟩

set_option maxHeartbeats 4000000 in
set_option maxRecDepth 100000 in
theorem c_X3_push {l : Launch} {Γ : zΓ} {G : zH} {w : Nat} {k : Int} (hX : zXs Γ) (h1 : 1 ≤ G.1 704 (Γ.2.1 w 0) 0) (h2 : 0 ≤ G.1 402 w 0) (hk : 0 ≤ k ∧ k ≤ 15) : zMet l Γ yX3_push cX3_push 2 none 1 [zr 4 w, zi k] G (zpv (fun G' => zsm [402, 403, 404, 405, 406, 407, 408, 409, 410, 411, 412, 413, 2025, 206, 207, 2014, 2015, 2016, 2017, 2036, 2037, 2038, 2039, 2040, 2041, 2042, 2043, 609, 610, 611, 612] G G' ∧ (0 ≤ G'.1 402 w 0))) := by
  refine zMet_of RX3 hX (by decide) rfl (Nat.le_of_ble_eq_true rfl) ?_
  intro p e s m args below meth c C hr hlk
  show Z p l e (zrm 1) s m args below meth c Γ 2 0 0 (MQ below (zQc Γ (zpv (fun G' => zsm [402, 403, 404, 405, 406, 407, 408, 409, 410, 411, 412, 413, 2025, 206, 207, 2014, 2015, 2016, 2017, 2036, 2037, 2038, 2039, 2040, 2041, 2042, 2043, 609, 610, 611, 612] G G' ∧ (0 ≤ G'.1 402 w 0)))) args s 0 0 (zA Γ)) 0 [some (zr 4 w), some (zi k)] [] G
  refine zs_loc 1 rfl (fun ha1 hb1 => ?_)
  refine zs_aload_n (pc := 0) C dX3_push_0 rfl ?_
  refine zs_geti (r := 410) (pc := 1) C dX3_push_1 w_X3_165 f_4_10 rfl (r_410 0) (fun v1 e1 l1 u1 => ?_)
  refine zs_aload_n (pc := 4) C dX3_push_4 rfl ?_
  refine zs_getf (pc := 5) C dX3_push_5 w_X3_27 f_4_9 (by decide) ?_
  refine zs_alen (pc := 8) C dX3_push_8 a_25 (by decide) (by decide) ?_
  refine zs_icmp_ge (tgt := 32) (pc := 9) C dX3_push_9 (by decide) (fun h9 => ?_) (fun h9 => ?_)
  · skip
    refine zs_aload_n (pc := 32) C dX3_push_32 rfl ?_
    refine zVv0 (pc := 33) C dX3_push_33 v_X3_51 (c_X3_next hX (by omega)) (by decide) (by decide) ⟨Nat.zero_le _, Nat.zero_le _⟩ (Nat.le_of_ble_eq_true rfl) (fun G33 hp33 => ?_)
    obtain ⟨hz33, hq33⟩ := hp33
    have tr33_704 := zsm_at hz33 704 (Γ.2.1 w 0) 0 (by decide)
    try simp only [zuI_1, zuI_2, zuJ_1, zuJ_2, zuJ_3, zuP_1, zuP_2, zuP_3, zuC_1, zuC_2, reduceIte, Nat.reduceEqDiff, false_and, and_false, true_and, and_true, and_self, or_true, true_or, or_false, false_or] at tr33_704
    have tr33_407 := zsm_at hz33 407 w 0 (by decide)
    try simp only [zuI_1, zuI_2, zuJ_1, zuJ_2, zuJ_3, zuP_1, zuP_2, zuP_3, zuC_1, zuC_2, reduceIte, Nat.reduceEqDiff, false_and, and_false, true_and, and_true, and_self, or_true, true_or, or_false, false_or] at tr33_407
    exact zs_vret (pc := 36) C hr hlk dX3_push_36 ⟨by repeat (first | exact zsm_rf | assumption | refine zsm_C (by decide) ?_ | refine zsm_I (by decide) ?_ | refine zsm_J ?_ | refine zsm_c (by assumption) (by decide) ?_), by first | omega | (simp only [zuI_1, zuI_2, zuJ_1, zuJ_2, zuJ_3, zuP_1, zuP_2, zuP_3, zuC_1, zuC_2, reduceIte, Nat.reduceEqDiff, false_and, and_false, true_and, and_true, and_self, or_true, true_or, or_false, false_or]; omega)⟩
  · skip
    refine zs_aload_n (pc := 12) C dX3_push_12 rfl ?_
    refine zs_getf (pc := 13) C dX3_push_13 w_X3_27 f_4_9 (by decide) ?_
    refine zs_aload_n (pc := 16) C dX3_push_16 rfl ?_
    refine zs_geti (r := 410) (pc := 17) C dX3_push_17 w_X3_165 f_4_10 rfl (r_410 0) (fun v17 e17 l17 u17 => ?_)
    refine zs_iload_n (pc := 20) C dX3_push_20 rfl ?_
    refine zs_iast (r := 2025) (pc := 21) C dX3_push_21 a_25 (by decide) (by omega) rfl (r_2025 _) (by omega) ?_
    refine zs_aload_n (pc := 22) C dX3_push_22 rfl ?_
    refine zs_dupa (pc := 23) C dX3_push_23 ?_
    refine zs_geti (r := 410) (pc := 24) C dX3_push_24 w_X3_165 f_4_10 rfl (r_410 0) (fun v24 e24 l24 u24 => ?_)
    try simp only [zuI_1, zuI_2, zuJ_1, zuJ_2, zuJ_3, zuP_1, zuP_2, zuP_3, zuC_1, zuC_2, reduceIte, Nat.reduceEqDiff, false_and, and_false, true_and, and_true, and_self, or_true, true_or, or_false, false_or] at e24
    refine zs_iconst (pc := 27) C dX3_push_27 (by decide) ?_
    first | refine zs_iadd (pc := 28) C dX3_push_28 (by omega) ?_ | refine zs_iaddF (pc := 28) C dX3_push_28 (fun z28 hz281 hz282 => ?_)
    refine zs_puti (r := 410) (pc := 29) C dX3_push_29 w_X3_165 f_4_10 rfl (r_410 0) (by omega) ?_
    refine zs_aload_n (pc := 32) C dX3_push_32 rfl ?_
    refine zVv0 (pc := 33) C dX3_push_33 v_X3_51 (c_X3_next hX (by first | omega | (simp only [zuI_1, zuI_2, zuJ_1, zuJ_2, zuJ_3, zuP_1, zuP_2, zuP_3, zuC_1, zuC_2, reduceIte, Nat.reduceEqDiff, false_and, and_false, true_and, and_true, and_self, or_true, true_or, or_false, false_or]; omega))) (by decide) (by decide) ⟨Nat.zero_le _, Nat.zero_le _⟩ (Nat.le_of_ble_eq_true rfl) (fun G33 hp33 => ?_)
    obtain ⟨hz33, hq33⟩ := hp33
    try simp only [zuI_1, zuI_2, zuJ_1, zuJ_2, zuJ_3, zuP_1, zuP_2, zuP_3, zuC_1, zuC_2, reduceIte, Nat.reduceEqDiff, false_and, and_false, true_and, and_true, and_self, or_true, true_or, or_false, false_or] at hq33
    have tr33_704 := zsm_at hz33 704 (Γ.2.1 w 0) 0 (by decide)
    try simp only [zuI_1, zuI_2, zuJ_1, zuJ_2, zuJ_3, zuP_1, zuP_2, zuP_3, zuC_1, zuC_2, reduceIte, Nat.reduceEqDiff, false_and, and_false, true_and, and_true, and_self, or_true, true_or, or_false, false_or] at tr33_704
    have tr33_407 := zsm_at hz33 407 w 0 (by decide)
    try simp only [zuI_1, zuI_2, zuJ_1, zuJ_2, zuJ_3, zuP_1, zuP_2, zuP_3, zuC_1, zuC_2, reduceIte, Nat.reduceEqDiff, false_and, and_false, true_and, and_true, and_self, or_true, true_or, or_false, false_or] at tr33_407
    exact zs_vret (pc := 36) C hr hlk dX3_push_36 ⟨by repeat (first | exact zsm_rf | assumption | refine zsm_C (by decide) ?_ | refine zsm_I (by decide) ?_ | refine zsm_J ?_ | refine zsm_c (by assumption) (by decide) ?_), by first | omega | (simp only [zuI_1, zuI_2, zuJ_1, zuJ_2, zuJ_3, zuP_1, zuP_2, zuP_3, zuC_1, zuC_2, reduceIte, Nat.reduceEqDiff, false_and, and_false, true_and, and_true, and_self, or_true, true_or, or_false, false_or]; omega)⟩

set_option maxHeartbeats 4000000 in
set_option maxRecDepth 100000 in
theorem c_X3_writeSide {l : Launch} {Γ : zΓ} {G : zH} {w : Nat} {a b : Int} (hX : zXs Γ) (h1 : 1 ≤ G.1 704 (Γ.2.1 w 0) 0) (h2 : 0 ≤ G.1 402 w 0)  : zMet l Γ yX3_writeSide cX3_writeSide 3 none 2 [zr 4 w, zi a, zi b] G (zpv (fun G' => zsm [402, 403, 404, 405, 406, 407, 408, 409, 410, 411, 412, 413, 2025, 206, 207, 2014, 2015, 2016, 2017, 2036, 2037, 2038, 2039, 2040, 2041, 2042, 2043, 609, 610, 611, 612] G G' ∧ (0 ≤ G'.1 402 w 0))) := by
  refine zMet_of RX3 hX (by decide) rfl (Nat.le_of_ble_eq_true rfl) ?_
  intro p e s m args below meth c C hr hlk
  show Z p l e (zrm 2) s m args below meth c Γ 3 0 0 (MQ below (zQc Γ (zpv (fun G' => zsm [402, 403, 404, 405, 406, 407, 408, 409, 410, 411, 412, 413, 2025, 206, 207, 2014, 2015, 2016, 2017, 2036, 2037, 2038, 2039, 2040, 2041, 2042, 2043, 609, 610, 611, 612] G G' ∧ (0 ≤ G'.1 402 w 0)))) args s 0 0 (zA Γ)) 0 [some (zr 4 w), some (zi a), some (zi b)] [] G
  refine zs_loc 1 rfl (fun ha1 hb1 => ?_)
  refine zs_loc 2 rfl (fun ha2 hb2 => ?_)
  refine zs_aload_n (pc := 0) C dX3_writeSide_0 rfl ?_
  refine zVi0 (pc := 1) C dX3_writeSide_1 v_X3_197 (c_X3_countKnot hX (by omega) (by omega)) (by decide) (by decide) ⟨Nat.zero_le _, Nat.zero_le _⟩ (Nat.le_of_ble_eq_true rfl) (fun x1 G1 l1 u1 hp1 => ?_)
  obtain ⟨hz1, hq1⟩ := hp1
  have tr1_704 := zsm_at hz1 704 (Γ.2.1 w 0) 0 (by decide)
  try simp only [zuI_1, zuI_2, zuJ_1, zuJ_2, zuJ_3, zuP_1, zuP_2, zuP_3, zuC_1, zuC_2, reduceIte, Nat.reduceEqDiff, false_and, and_false, true_and, and_true, and_self, or_true, true_or, or_false, false_or] at tr1_704
  refine zs_if_eq (tgt := 28) (pc := 4) C dX3_writeSide_4 (by decide) (fun h4 => ?_) (fun h4 => ?_)
  · skip
    exact zs_vret (pc := 28) C hr hlk dX3_writeSide_28 ⟨by repeat (first | exact zsm_rf | assumption | refine zsm_C (by decide) ?_ | refine zsm_I (by decide) ?_ | refine zsm_J ?_ | refine zsm_c (by assumption) (by decide) ?_), by first | omega | (simp only [zuI_1, zuI_2, zuJ_1, zuJ_2, zuJ_3, zuP_1, zuP_2, zuP_3, zuC_1, zuC_2, reduceIte, Nat.reduceEqDiff, false_and, and_false, true_and, and_true, and_self, or_true, true_or, or_false, false_or]; omega)⟩
  · skip
    refine zs_aload_n (pc := 7) C dX3_writeSide_7 rfl ?_
    refine zs_getd (r := 401) (pc := 8) C dX3_writeSide_8 w_X3_21 f_4_1 (by decide) rfl (fun v8 e8 t8 => ?_)
    try simp only [hz1.2, zuI_1, zuI_2, zuJ_1, zuJ_2, zuJ_3, zuP_1, zuP_2, zuP_3, zuC_1, zuC_2, reduceIte, Nat.reduceEqDiff, false_and, and_false, true_and, and_true, and_self, or_true, true_or, or_false, false_or] at e8
    subst e8
    refine zs_getf (pc := 11) C dX3_writeSide_11 w_X3_148 f_6_0 (by decide) ?_
    refine zs_iload_n (pc := 14) C dX3_writeSide_14 rfl ?_
    refine zs_iload_n (pc := 15) C dX3_writeSide_15 rfl ?_
    refine zVv2 (pc := 16) C dX3_writeSide_16 v_X3_206 (c_X1_write hX ) (by decide) (by decide) ⟨Nat.zero_le _, Nat.zero_le _⟩ (Nat.le_of_ble_eq_true rfl) (fun G16 hp16 => ?_)
    obtain ⟨hz16, hq16⟩ := hp16
    have tr16_704 := zsm_at hz16 704 (Γ.2.1 w 0) 0 (by decide)
    try simp only [zuI_1, zuI_2, zuJ_1, zuJ_2, zuJ_3, zuP_1, zuP_2, zuP_3, zuC_1, zuC_2, reduceIte, Nat.reduceEqDiff, false_and, and_false, true_and, and_true, and_self, or_true, true_or, or_false, false_or] at tr16_704
    have tr16_402 := zsm_at hz16 402 w 0 (by decide)
    try simp only [zuI_1, zuI_2, zuJ_1, zuJ_2, zuJ_3, zuP_1, zuP_2, zuP_3, zuC_1, zuC_2, reduceIte, Nat.reduceEqDiff, false_and, and_false, true_and, and_true, and_self, or_true, true_or, or_false, false_or] at tr16_402
    have tr16_407 := zsm_at hz16 407 w 0 (by decide)
    try simp only [zuI_1, zuI_2, zuJ_1, zuJ_2, zuJ_3, zuP_1, zuP_2, zuP_3, zuC_1, zuC_2, reduceIte, Nat.reduceEqDiff, false_and, and_false, true_and, and_true, and_self, or_true, true_or, or_false, false_or] at tr16_407
    refine zs_aload_n (pc := 19) C dX3_writeSide_19 rfl ?_
    refine zs_iconst (pc := 20) C dX3_writeSide_20 (by decide) ?_
    refine zs_putz (r := 412) (pc := 21) C dX3_writeSide_21 w_X3_171 f_4_12 rfl (r_412 0) (by omega) (by omega) ?_
    refine zs_aload_n (pc := 24) C dX3_writeSide_24 rfl ?_
    refine zVv0 (pc := 25) C dX3_writeSide_25 v_X3_51 (c_X3_next hX (by first | omega | (simp only [zuI_1, zuI_2, zuJ_1, zuJ_2, zuJ_3, zuP_1, zuP_2, zuP_3, zuC_1, zuC_2, reduceIte, Nat.reduceEqDiff, false_and, and_false, true_and, and_true, and_self, or_true, true_or, or_false, false_or]; omega))) (by decide) (by decide) ⟨Nat.zero_le _, Nat.zero_le _⟩ (Nat.le_of_ble_eq_true rfl) (fun G25 hp25 => ?_)
    obtain ⟨hz25, hq25⟩ := hp25
    try simp only [zuI_1, zuI_2, zuJ_1, zuJ_2, zuJ_3, zuP_1, zuP_2, zuP_3, zuC_1, zuC_2, reduceIte, Nat.reduceEqDiff, false_and, and_false, true_and, and_true, and_self, or_true, true_or, or_false, false_or] at hq25
    have tr25_704 := zsm_at hz25 704 (Γ.2.1 w 0) 0 (by decide)
    try simp only [zuI_1, zuI_2, zuJ_1, zuJ_2, zuJ_3, zuP_1, zuP_2, zuP_3, zuC_1, zuC_2, reduceIte, Nat.reduceEqDiff, false_and, and_false, true_and, and_true, and_self, or_true, true_or, or_false, false_or] at tr25_704
    have tr25_407 := zsm_at hz25 407 w 0 (by decide)
    try simp only [zuI_1, zuI_2, zuJ_1, zuJ_2, zuJ_3, zuP_1, zuP_2, zuP_3, zuC_1, zuC_2, reduceIte, Nat.reduceEqDiff, false_and, and_false, true_and, and_true, and_self, or_true, true_or, or_false, false_or] at tr25_407
    exact zs_vret (pc := 28) C hr hlk dX3_writeSide_28 ⟨by repeat (first | exact zsm_rf | assumption | refine zsm_C (by decide) ?_ | refine zsm_I (by decide) ?_ | refine zsm_J ?_ | refine zsm_c (by assumption) (by decide) ?_), by first | omega | (simp only [zuI_1, zuI_2, zuJ_1, zuJ_2, zuJ_3, zuP_1, zuP_2, zuP_3, zuC_1, zuC_2, reduceIte, Nat.reduceEqDiff, false_and, and_false, true_and, and_true, and_self, or_true, true_or, or_false, false_or]; omega)⟩

set_option maxHeartbeats 4000000 in
set_option maxRecDepth 100000 in
theorem c_X3_readOpen {l : Launch} {Γ : zΓ} {G : zH} {w : Nat}  (hX : zXs Γ) (h1 : 1 ≤ G.1 704 (Γ.2.1 w 0) 0) (h2 : 0 ≤ G.1 402 w 0)  : zMet l Γ yX3_readOpen cX3_readOpen 1 none 2 [zr 4 w] G (zpv (fun G' => zsm [402, 403, 404, 405, 406, 407, 408, 409, 410, 411, 412, 413, 2025, 206, 207, 2014, 2015, 2016, 2017, 2036, 2037, 2038, 2039, 2040, 2041, 2042, 2043, 609, 610, 611, 612] G G' ∧ (0 ≤ G'.1 402 w 0))) := by
  refine zMet_of RX3 hX (by decide) rfl (Nat.le_of_ble_eq_true rfl) ?_
  intro p e s m args below meth c C hr hlk
  show Z p l e (zrm 2) s m args below meth c Γ 1 0 0 (MQ below (zQc Γ (zpv (fun G' => zsm [402, 403, 404, 405, 406, 407, 408, 409, 410, 411, 412, 413, 2025, 206, 207, 2014, 2015, 2016, 2017, 2036, 2037, 2038, 2039, 2040, 2041, 2042, 2043, 609, 610, 611, 612] G G' ∧ (0 ≤ G'.1 402 w 0)))) args s 0 0 (zA Γ)) 0 [some (zr 4 w)] [] G
  refine zs_aload_n (pc := 0) C dX3_readOpen_0 rfl ?_
  refine zs_geti (r := 411) (pc := 1) C dX3_readOpen_1 w_X3_168 f_4_11 rfl (r_411 0) (fun v1 e1 l1 u1 => ?_)
  refine zs_bipush (pc := 4) C dX3_readOpen_4 (by decide) (by decide) ?_
  refine zs_icmp_lt (tgt := 15) (pc := 6) C dX3_readOpen_6 (by decide) (fun h6 => ?_) (fun h6 => ?_)
  · skip
    refine zs_aload_n (pc := 15) C dX3_readOpen_15 rfl ?_
    refine zs_dupa (pc := 16) C dX3_readOpen_16 ?_
    refine zs_geti (r := 411) (pc := 17) C dX3_readOpen_17 w_X3_168 f_4_11 rfl (r_411 0) (fun v17 e17 l17 u17 => ?_)
    refine zs_iconst (pc := 20) C dX3_readOpen_20 (by decide) ?_
    first | refine zs_iadd (pc := 21) C dX3_readOpen_21 (by omega) ?_ | refine zs_iaddF (pc := 21) C dX3_readOpen_21 (fun z21 hz211 hz212 => ?_)
    refine zs_puti (r := 411) (pc := 22) C dX3_readOpen_22 w_X3_168 f_4_11 rfl (r_411 0) (by omega) ?_
    refine zs_aload_n (pc := 25) C dX3_readOpen_25 rfl ?_
    refine zs_iconst (pc := 26) C dX3_readOpen_26 (by decide) ?_
    refine zs_putz (r := 413) (pc := 27) C dX3_readOpen_27 w_X3_175 f_4_13 rfl (r_413 0) (by omega) (by omega) ?_
    refine zs_aload_n (pc := 30) C dX3_readOpen_30 rfl ?_
    refine zs_bipush (pc := 31) C dX3_readOpen_31 (by decide) (by decide) ?_
    refine zVv1 (pc := 33) C dX3_readOpen_33 v_X3_200 (c_X3_push hX (by first | omega | (simp only [zuI_1, zuI_2, zuJ_1, zuJ_2, zuJ_3, zuP_1, zuP_2, zuP_3, zuC_1, zuC_2, reduceIte, Nat.reduceEqDiff, false_and, and_false, true_and, and_true, and_self, or_true, true_or, or_false, false_or]; omega)) (by first | omega | (simp only [zuI_1, zuI_2, zuJ_1, zuJ_2, zuJ_3, zuP_1, zuP_2, zuP_3, zuC_1, zuC_2, reduceIte, Nat.reduceEqDiff, false_and, and_false, true_and, and_true, and_self, or_true, true_or, or_false, false_or]; omega)) (by first | omega | (simp only [zuI_1, zuI_2, zuJ_1, zuJ_2, zuJ_3, zuP_1, zuP_2, zuP_3, zuC_1, zuC_2, reduceIte, Nat.reduceEqDiff, false_and, and_false, true_and, and_true, and_self, or_true, true_or, or_false, false_or]; omega))) (by decide) (by decide) ⟨Nat.zero_le _, Nat.zero_le _⟩ (Nat.le_of_ble_eq_true rfl) (fun G33 hp33 => ?_)
    obtain ⟨hz33, hq33⟩ := hp33
    try simp only [zuI_1, zuI_2, zuJ_1, zuJ_2, zuJ_3, zuP_1, zuP_2, zuP_3, zuC_1, zuC_2, reduceIte, Nat.reduceEqDiff, false_and, and_false, true_and, and_true, and_self, or_true, true_or, or_false, false_or] at hq33
    have tr33_704 := zsm_at hz33 704 (Γ.2.1 w 0) 0 (by decide)
    try simp only [zuI_1, zuI_2, zuJ_1, zuJ_2, zuJ_3, zuP_1, zuP_2, zuP_3, zuC_1, zuC_2, reduceIte, Nat.reduceEqDiff, false_and, and_false, true_and, and_true, and_self, or_true, true_or, or_false, false_or] at tr33_704
    exact zs_vret (pc := 36) C hr hlk dX3_readOpen_36 ⟨by repeat (first | exact zsm_rf | assumption | refine zsm_C (by decide) ?_ | refine zsm_I (by decide) ?_ | refine zsm_J ?_ | refine zsm_c (by assumption) (by decide) ?_), by first | omega | (simp only [zuI_1, zuI_2, zuJ_1, zuJ_2, zuJ_3, zuP_1, zuP_2, zuP_3, zuC_1, zuC_2, reduceIte, Nat.reduceEqDiff, false_and, and_false, true_and, and_true, and_self, or_true, true_or, or_false, false_or]; omega)⟩
  · skip
    refine zs_aload_n (pc := 9) C dX3_readOpen_9 rfl ?_
    refine zs_iconst (pc := 10) C dX3_readOpen_10 (by decide) ?_
    refine zVv1 (pc := 11) C dX3_readOpen_11 v_X3_114 (c_X3_fail hX (by omega) (by omega)) (by decide) (by decide) ⟨Nat.zero_le _, Nat.zero_le _⟩ (Nat.le_of_ble_eq_true rfl) (fun G11 hp11 => ?_)
    obtain ⟨hz11, hq11⟩ := hp11
    have tr11_704 := zsm_at hz11 704 (Γ.2.1 w 0) 0 (by decide)
    try simp only [zuI_1, zuI_2, zuJ_1, zuJ_2, zuJ_3, zuP_1, zuP_2, zuP_3, zuC_1, zuC_2, reduceIte, Nat.reduceEqDiff, false_and, and_false, true_and, and_true, and_self, or_true, true_or, or_false, false_or] at tr11_704
    have tr11_402 := zsm_at hz11 402 w 0 (by decide)
    try simp only [zuI_1, zuI_2, zuJ_1, zuJ_2, zuJ_3, zuP_1, zuP_2, zuP_3, zuC_1, zuC_2, reduceIte, Nat.reduceEqDiff, false_and, and_false, true_and, and_true, and_self, or_true, true_or, or_false, false_or] at tr11_402
    exact zs_vret (pc := 14) C hr hlk dX3_readOpen_14 ⟨by repeat (first | exact zsm_rf | assumption | refine zsm_C (by decide) ?_ | refine zsm_I (by decide) ?_ | refine zsm_J ?_ | refine zsm_c (by assumption) (by decide) ?_), by first | omega | (simp only [zuI_1, zuI_2, zuJ_1, zuJ_2, zuJ_3, zuP_1, zuP_2, zuP_3, zuC_1, zuC_2, reduceIte, Nat.reduceEqDiff, false_and, and_false, true_and, and_true, and_self, or_true, true_or, or_false, false_or]; omega)⟩

set_option maxHeartbeats 4000000 in
set_option maxRecDepth 100000 in
theorem c_X3_knotHere {l : Launch} {Γ : zΓ} {G : zH} {w : Nat} (hX : zXs Γ)  : zMet l Γ yX3_knotHere cX3_knotHere 1 (some .int) 0 [zr 4 w] G (zpi (fun x G' => G' = G ∧ (x = -1 ∨ (2 ≤ x ∧ x ≤ 14)))) := by
  refine zMet_of RX3 hX (by decide) rfl (Nat.le_of_ble_eq_true rfl) ?_
  intro p e s m args below meth c C hr hlk
  show Z p l e (zrm 0) s m args below meth c Γ 1 0 0 (MQ below (zQc Γ (zpi (fun x G' => G' = G ∧ (x = -1 ∨ (2 ≤ x ∧ x ≤ 14))))) args s 0 0 (zA Γ)) 0 [some (zr 4 w)] [] G
  refine zs_aload_n (pc := 0) C dX3_knotHere_0 rfl ?_
  refine zs_geti (r := 403) (pc := 1) C dX3_knotHere_1 w_X3_54 f_4_3 rfl (r_403 0) (fun v1 e1 l1 u1 => ?_)
  refine zs_iconst (pc := 4) C dX3_knotHere_4 (by decide) ?_
  refine zs_icmp_ne (tgt := 30) (pc := 5) C dX3_knotHere_5 (by decide) (fun h5 => ?_) (fun h5 => ?_)
  · skip
    refine zs_aload_n (pc := 30) C dX3_knotHere_30 rfl ?_
    refine zs_geti (r := 405) (pc := 31) C dX3_knotHere_31 w_X3_70 f_4_5 rfl (r_405 0) (fun v31 e31 l31 u31 => ?_)
    refine zs_bipush (pc := 34) C dX3_knotHere_34 (by decide) (by decide) ?_
    refine zs_icmp_ne (tgt := 43) (pc := 36) C dX3_knotHere_36 (by decide) (fun h36 => ?_) (fun h36 => ?_)
    · skip
      refine zs_aload_n (pc := 43) C dX3_knotHere_43 rfl ?_
      refine zs_geti (r := 405) (pc := 44) C dX3_knotHere_44 w_X3_70 f_4_5 rfl (r_405 0) (fun v44 e44 l44 u44 => ?_)
      refine zs_bipush (pc := 47) C dX3_knotHere_47 (by decide) (by decide) ?_
      refine zs_icmp_ne (tgt := 56) (pc := 49) C dX3_knotHere_49 (by decide) (fun h49 => ?_) (fun h49 => ?_)
      · skip
        refine zs_iconst (pc := 56) C dX3_knotHere_56 (by decide) ?_
        exact zs_iret (pc := 57) C hr hlk dX3_knotHere_57 ⟨rfl, by first | omega | (simp only [zuI_1, zuI_2, zuJ_1, zuJ_2, zuJ_3, zuP_1, zuP_2, zuP_3, zuC_1, zuC_2, reduceIte, Nat.reduceEqDiff, false_and, and_false, true_and, and_true, and_self, or_true, true_or, or_false, false_or]; omega)⟩
      · skip
        refine zs_iconst (pc := 52) C dX3_knotHere_52 (by decide) ?_
        refine zs_goto (tgt := 57) (pc := 53) C dX3_knotHere_53 (by decide) ?_
        exact zs_iret (pc := 57) C hr hlk dX3_knotHere_57 ⟨rfl, by first | omega | (simp only [zuI_1, zuI_2, zuJ_1, zuJ_2, zuJ_3, zuP_1, zuP_2, zuP_3, zuC_1, zuC_2, reduceIte, Nat.reduceEqDiff, false_and, and_false, true_and, and_true, and_self, or_true, true_or, or_false, false_or]; omega)⟩
    · skip
      refine zs_iconst (pc := 39) C dX3_knotHere_39 (by decide) ?_
      refine zs_goto (tgt := 57) (pc := 40) C dX3_knotHere_40 (by decide) ?_
      exact zs_iret (pc := 57) C hr hlk dX3_knotHere_57 ⟨rfl, by first | omega | (simp only [zuI_1, zuI_2, zuJ_1, zuJ_2, zuJ_3, zuP_1, zuP_2, zuP_3, zuC_1, zuC_2, reduceIte, Nat.reduceEqDiff, false_and, and_false, true_and, and_true, and_self, or_true, true_or, or_false, false_or]; omega)⟩
  · skip
    refine zs_aload_n (pc := 8) C dX3_knotHere_8 rfl ?_
    refine zs_geti (r := 404) (pc := 9) C dX3_knotHere_9 w_X3_68 f_4_4 rfl (r_404 0) (fun v9 e9 l9 u9 => ?_)
    refine zs_iconst (pc := 12) C dX3_knotHere_12 (by decide) ?_
    refine zs_icmp_lt (tgt := 30) (pc := 13) C dX3_knotHere_13 (by decide) (fun h13 => ?_) (fun h13 => ?_)
    · skip
      refine zs_aload_n (pc := 30) C dX3_knotHere_30 rfl ?_
      refine zs_geti (r := 405) (pc := 31) C dX3_knotHere_31 w_X3_70 f_4_5 rfl (r_405 0) (fun v31 e31 l31 u31 => ?_)
      refine zs_bipush (pc := 34) C dX3_knotHere_34 (by decide) (by decide) ?_
      refine zs_icmp_ne (tgt := 43) (pc := 36) C dX3_knotHere_36 (by decide) (fun h36 => ?_) (fun h36 => ?_)
      · skip
        refine zs_aload_n (pc := 43) C dX3_knotHere_43 rfl ?_
        refine zs_geti (r := 405) (pc := 44) C dX3_knotHere_44 w_X3_70 f_4_5 rfl (r_405 0) (fun v44 e44 l44 u44 => ?_)
        refine zs_bipush (pc := 47) C dX3_knotHere_47 (by decide) (by decide) ?_
        refine zs_icmp_ne (tgt := 56) (pc := 49) C dX3_knotHere_49 (by decide) (fun h49 => ?_) (fun h49 => ?_)
        · skip
          refine zs_iconst (pc := 56) C dX3_knotHere_56 (by decide) ?_
          exact zs_iret (pc := 57) C hr hlk dX3_knotHere_57 ⟨rfl, by first | omega | (simp only [zuI_1, zuI_2, zuJ_1, zuJ_2, zuJ_3, zuP_1, zuP_2, zuP_3, zuC_1, zuC_2, reduceIte, Nat.reduceEqDiff, false_and, and_false, true_and, and_true, and_self, or_true, true_or, or_false, false_or]; omega)⟩
        · skip
          refine zs_iconst (pc := 52) C dX3_knotHere_52 (by decide) ?_
          refine zs_goto (tgt := 57) (pc := 53) C dX3_knotHere_53 (by decide) ?_
          exact zs_iret (pc := 57) C hr hlk dX3_knotHere_57 ⟨rfl, by first | omega | (simp only [zuI_1, zuI_2, zuJ_1, zuJ_2, zuJ_3, zuP_1, zuP_2, zuP_3, zuC_1, zuC_2, reduceIte, Nat.reduceEqDiff, false_and, and_false, true_and, and_true, and_self, or_true, true_or, or_false, false_or]; omega)⟩
      · skip
        refine zs_iconst (pc := 39) C dX3_knotHere_39 (by decide) ?_
        refine zs_goto (tgt := 57) (pc := 40) C dX3_knotHere_40 (by decide) ?_
        exact zs_iret (pc := 57) C hr hlk dX3_knotHere_57 ⟨rfl, by first | omega | (simp only [zuI_1, zuI_2, zuJ_1, zuJ_2, zuJ_3, zuP_1, zuP_2, zuP_3, zuC_1, zuC_2, reduceIte, Nat.reduceEqDiff, false_and, and_false, true_and, and_true, and_self, or_true, true_or, or_false, false_or]; omega)⟩
    · skip
      refine zs_aload_n (pc := 16) C dX3_knotHere_16 rfl ?_
      refine zs_geti (r := 404) (pc := 17) C dX3_knotHere_17 w_X3_68 f_4_4 rfl (r_404 0) (fun v17 e17 l17 u17 => ?_)
      refine zs_bipush (pc := 20) C dX3_knotHere_20 (by decide) (by decide) ?_
      refine zs_icmp_gt (tgt := 30) (pc := 22) C dX3_knotHere_22 (by decide) (fun h22 => ?_) (fun h22 => ?_)
      · skip
        refine zs_aload_n (pc := 30) C dX3_knotHere_30 rfl ?_
        refine zs_geti (r := 405) (pc := 31) C dX3_knotHere_31 w_X3_70 f_4_5 rfl (r_405 0) (fun v31 e31 l31 u31 => ?_)
        refine zs_bipush (pc := 34) C dX3_knotHere_34 (by decide) (by decide) ?_
        refine zs_icmp_ne (tgt := 43) (pc := 36) C dX3_knotHere_36 (by decide) (fun h36 => ?_) (fun h36 => ?_)
        · skip
          refine zs_aload_n (pc := 43) C dX3_knotHere_43 rfl ?_
          refine zs_geti (r := 405) (pc := 44) C dX3_knotHere_44 w_X3_70 f_4_5 rfl (r_405 0) (fun v44 e44 l44 u44 => ?_)
          refine zs_bipush (pc := 47) C dX3_knotHere_47 (by decide) (by decide) ?_
          refine zs_icmp_ne (tgt := 56) (pc := 49) C dX3_knotHere_49 (by decide) (fun h49 => ?_) (fun h49 => ?_)
          · skip
            refine zs_iconst (pc := 56) C dX3_knotHere_56 (by decide) ?_
            exact zs_iret (pc := 57) C hr hlk dX3_knotHere_57 ⟨rfl, by first | omega | (simp only [zuI_1, zuI_2, zuJ_1, zuJ_2, zuJ_3, zuP_1, zuP_2, zuP_3, zuC_1, zuC_2, reduceIte, Nat.reduceEqDiff, false_and, and_false, true_and, and_true, and_self, or_true, true_or, or_false, false_or]; omega)⟩
          · skip
            refine zs_iconst (pc := 52) C dX3_knotHere_52 (by decide) ?_
            refine zs_goto (tgt := 57) (pc := 53) C dX3_knotHere_53 (by decide) ?_
            exact zs_iret (pc := 57) C hr hlk dX3_knotHere_57 ⟨rfl, by first | omega | (simp only [zuI_1, zuI_2, zuJ_1, zuJ_2, zuJ_3, zuP_1, zuP_2, zuP_3, zuC_1, zuC_2, reduceIte, Nat.reduceEqDiff, false_and, and_false, true_and, and_true, and_self, or_true, true_or, or_false, false_or]; omega)⟩
        · skip
          refine zs_iconst (pc := 39) C dX3_knotHere_39 (by decide) ?_
          refine zs_goto (tgt := 57) (pc := 40) C dX3_knotHere_40 (by decide) ?_
          exact zs_iret (pc := 57) C hr hlk dX3_knotHere_57 ⟨rfl, by first | omega | (simp only [zuI_1, zuI_2, zuJ_1, zuJ_2, zuJ_3, zuP_1, zuP_2, zuP_3, zuC_1, zuC_2, reduceIte, Nat.reduceEqDiff, false_and, and_false, true_and, and_true, and_self, or_true, true_or, or_false, false_or]; omega)⟩
      · skip
        refine zs_aload_n (pc := 25) C dX3_knotHere_25 rfl ?_
        refine zs_geti (r := 404) (pc := 26) C dX3_knotHere_26 w_X3_68 f_4_4 rfl (r_404 0) (fun v26 e26 l26 u26 => ?_)
        exact zs_iret (pc := 29) C hr hlk dX3_knotHere_29 ⟨rfl, by first | omega | (simp only [zuI_1, zuI_2, zuJ_1, zuJ_2, zuJ_3, zuP_1, zuP_2, zuP_3, zuC_1, zuC_2, reduceIte, Nat.reduceEqDiff, false_and, and_false, true_and, and_true, and_self, or_true, true_or, or_false, false_or]; omega)⟩

set_option maxHeartbeats 4000000 in
set_option maxRecDepth 100000 in
theorem c_X3_release {l : Launch} {Γ : zΓ} {G : zH} {w : Nat} {k : Int} (hX : zXs Γ) (h1 : 1 ≤ G.1 704 (Γ.2.1 w 0) 0) (h2 : 0 ≤ G.1 402 w 0)  : zMet l Γ yX3_release cX3_release 2 none 1 [zr 4 w, zi k] G (zpv (fun G' => zsm [410, 206, 2014, 2015] G G' ∧ (0 ≤ G'.1 402 w 0))) := by
  refine zMet_of RX3 hX (by decide) rfl (Nat.le_of_ble_eq_true rfl) ?_
  intro p e s m args below meth c C hr hlk
  show Z p l e (zrm 1) s m args below meth c Γ 2 0 0 (MQ below (zQc Γ (zpv (fun G' => zsm [410, 206, 2014, 2015] G G' ∧ (0 ≤ G'.1 402 w 0)))) args s 0 0 (zA Γ)) 0 [some (zr 4 w), some (zi k)] [] G
  refine zs_loc 1 rfl (fun ha1 hb1 => ?_)
  have L0 : ∀ (nn : Nat) (G1 : zH), (0 ≤ G1.1 402 w 0) → (zsm [410, 206, 2014, 2015] G G1) → (G1.1 410 w 0).toNat < nn → Z p l e (zrm 1) s m args below meth c Γ 2 0 0 (MQ below (zQc Γ (zpv (fun G' => zsm [410, 206, 2014, 2015] G G' ∧ (0 ≤ G'.1 402 w 0)))) args s 0 0 (zA Γ)) 0 [some (zr 4 w), some (zi k)] [] G1 := by
    intro nn
    induction nn with
    | zero => intro G1 h0_0 h0_1 hm; exact absurd hm (Nat.not_lt_zero _)
    | succ nn ih0 =>
      intro G1 h0_0 h0_1 hm0
      refine zs_aload_n (pc := 0) C dX3_release_0 rfl ?_
      refine zs_geti (r := 410) (pc := 1) C dX3_release_1 w_X3_165 f_4_10 rfl (r_410 0) (fun v1 e1 l1 u1 => ?_)
      refine zs_if_le (tgt := 59) (pc := 4) C dX3_release_4 (by decide) (fun h4 => ?_) (fun h4 => ?_)
      · skip
        exact zs_vret (pc := 59) C hr hlk dX3_release_59 ⟨by repeat (first | exact zsm_rf | assumption | refine zsm_C (by decide) ?_ | refine zsm_I (by decide) ?_ | refine zsm_J ?_ | refine zsm_c (by assumption) (by decide) ?_), by first | omega | (simp only [zuI_1, zuI_2, zuJ_1, zuJ_2, zuJ_3, zuP_1, zuP_2, zuP_3, zuC_1, zuC_2, reduceIte, Nat.reduceEqDiff, false_and, and_false, true_and, and_true, and_self, or_true, true_or, or_false, false_or]; omega)⟩
      · skip
        refine zs_binds (pc := 7) C dX3_release_7 q_X3_220 ?_
        refine zs_aload_n (pc := 10) C dX3_release_10 rfl ?_
        refine zs_getf (pc := 11) C dX3_release_11 w_X3_27 f_4_9 (by decide) ?_
        refine zs_aload_n (pc := 14) C dX3_release_14 rfl ?_
        refine zs_geti (r := 410) (pc := 15) C dX3_release_15 w_X3_165 f_4_10 rfl (r_410 0) (fun v15 e15 l15 u15 => ?_)
        refine zs_iconst (pc := 18) C dX3_release_18 (by decide) ?_
        first | refine zs_isub (pc := 19) C dX3_release_19 (by omega) ?_ | refine zs_isubF (pc := 19) C dX3_release_19 (fun z19 hz191 hz192 => ?_)
        refine zs_iald (r := 2025) (pc := 20) C dX3_release_20 a_25 (by decide) (by omega) rfl (r_2025 _) (fun v20 e20 l20 u20 => ?_)
        refine zs_xald (pc := 21) C 1 dX3_release_21 (by decide) rfl (by have := hX.1; have := hX.2.1; omega) (fun v21 e21 l21 u21 => ?_)
        refine zs_iload_n (pc := 22) C dX3_release_22 rfl ?_
        refine zs_icmp_lt (tgt := 59) (pc := 23) C dX3_release_23 (by decide) (fun h23 => ?_) (fun h23 => ?_)
        · skip
          exact zs_vret (pc := 59) C hr hlk dX3_release_59 ⟨by repeat (first | exact zsm_rf | assumption | refine zsm_C (by decide) ?_ | refine zsm_I (by decide) ?_ | refine zsm_J ?_ | refine zsm_c (by assumption) (by decide) ?_), by first | omega | (simp only [zuI_1, zuI_2, zuJ_1, zuJ_2, zuJ_3, zuP_1, zuP_2, zuP_3, zuC_1, zuC_2, reduceIte, Nat.reduceEqDiff, false_and, and_false, true_and, and_true, and_self, or_true, true_or, or_false, false_or]; omega)⟩
        · skip
          refine zs_aload_n (pc := 26) C dX3_release_26 rfl ?_
          refine zs_dupa (pc := 27) C dX3_release_27 ?_
          refine zs_geti (r := 410) (pc := 28) C dX3_release_28 w_X3_165 f_4_10 rfl (r_410 0) (fun v28 e28 l28 u28 => ?_)
          refine zs_iconst (pc := 31) C dX3_release_31 (by decide) ?_
          first | refine zs_isub (pc := 32) C dX3_release_32 (by omega) ?_ | refine zs_isubF (pc := 32) C dX3_release_32 (fun z32 hz321 hz322 => ?_)
          refine zs_puti (r := 410) (pc := 33) C dX3_release_33 w_X3_165 f_4_10 rfl (r_410 0) (by omega) ?_
          refine zs_aload_n (pc := 36) C dX3_release_36 rfl ?_
          refine zs_getd (r := 401) (pc := 37) C dX3_release_37 w_X3_21 f_4_1 (by decide) rfl (fun v37 e37 t37 => ?_)
          try simp only [h0_1.2, zuI_1, zuI_2, zuJ_1, zuJ_2, zuJ_3, zuP_1, zuP_2, zuP_3, zuC_1, zuC_2, reduceIte, Nat.reduceEqDiff, false_and, and_false, true_and, and_true, and_self, or_true, true_or, or_false, false_or] at e37
          subst e37
          refine zs_getf (pc := 40) C dX3_release_40 w_X3_148 f_6_0 (by decide) ?_
          refine zs_aload_n (pc := 43) C dX3_release_43 rfl ?_
          refine zs_getf (pc := 44) C dX3_release_44 w_X3_27 f_4_9 (by decide) ?_
          refine zs_aload_n (pc := 47) C dX3_release_47 rfl ?_
          refine zs_geti (r := 410) (pc := 48) C dX3_release_48 w_X3_165 f_4_10 rfl (r_410 0) (fun v48 e48 l48 u48 => ?_)
          try simp only [zuI_1, zuI_2, zuJ_1, zuJ_2, zuJ_3, zuP_1, zuP_2, zuP_3, zuC_1, zuC_2, reduceIte, Nat.reduceEqDiff, false_and, and_false, true_and, and_true, and_self, or_true, true_or, or_false, false_or] at e48
          refine zs_iald (r := 2025) (pc := 51) C dX3_release_51 a_25 (by decide) (by omega) rfl (r_2025 _) (fun v51 e51 l51 u51 => ?_)
          try simp only [zuI_1, zuI_2, zuJ_1, zuJ_2, zuJ_3, zuP_1, zuP_2, zuP_3, zuC_1, zuC_2, reduceIte, Nat.reduceEqDiff, false_and, and_false, true_and, and_true, and_self, or_true, true_or, or_false, false_or] at e51
          refine zs_iconst (pc := 52) C dX3_release_52 (by decide) ?_
          refine zVv2 (pc := 53) C dX3_release_53 v_X3_206 (c_X1_write hX ) (by decide) (by decide) ⟨Nat.zero_le _, Nat.zero_le _⟩ (Nat.le_of_ble_eq_true rfl) (fun G53 hp53 => ?_)
          obtain ⟨hz53, hq53⟩ := hp53
          try simp only [zuI_1, zuI_2, zuJ_1, zuJ_2, zuJ_3, zuP_1, zuP_2, zuP_3, zuC_1, zuC_2, reduceIte, Nat.reduceEqDiff, false_and, and_false, true_and, and_true, and_self, or_true, true_or, or_false, false_or] at hq53
          have tr53_402 := zsm_at hz53 402 w 0 (by decide)
          try simp only [zuI_1, zuI_2, zuJ_1, zuJ_2, zuJ_3, zuP_1, zuP_2, zuP_3, zuC_1, zuC_2, reduceIte, Nat.reduceEqDiff, false_and, and_false, true_and, and_true, and_self, or_true, true_or, or_false, false_or] at tr53_402
          have tr53_410 := zsm_at hz53 410 w 0 (by decide)
          try simp only [zuI_1, zuI_2, zuJ_1, zuJ_2, zuJ_3, zuP_1, zuP_2, zuP_3, zuC_1, zuC_2, reduceIte, Nat.reduceEqDiff, false_and, and_false, true_and, and_true, and_self, or_true, true_or, or_false, false_or] at tr53_410
          refine zs_goto (tgt := 0) (pc := 56) C dX3_release_56 (by decide) ?_
          exact zs_wk (ih0 _ (by first | omega | (simp only [zuI_1, zuI_2, zuJ_1, zuJ_2, zuJ_3, zuP_1, zuP_2, zuP_3, zuC_1, zuC_2, reduceIte, Nat.reduceEqDiff, false_and, and_false, true_and, and_true, and_self, or_true, true_or, or_false, false_or]; omega)) (by repeat (first | exact zsm_rf | assumption | refine zsm_C (by decide) ?_ | refine zsm_I (by decide) ?_ | refine zsm_J ?_ | refine zsm_c (by assumption) (by decide) ?_)) (by first | omega | (simp only [zuI_1, zuI_2, zuJ_1, zuJ_2, zuJ_3, zuP_1, zuP_2, zuP_3, zuC_1, zuC_2, reduceIte, Nat.reduceEqDiff, false_and, and_false, true_and, and_true, and_self, or_true, true_or, or_false, false_or]; omega))) (zwk_s rfl (zwk_s rfl zwk_0))
  exact zs_wk (L0 _ _ (by first | omega | (simp only [zuI_1, zuI_2, zuJ_1, zuJ_2, zuJ_3, zuP_1, zuP_2, zuP_3, zuC_1, zuC_2, reduceIte, Nat.reduceEqDiff, false_and, and_false, true_and, and_true, and_self, or_true, true_or, or_false, false_or]; omega)) (by repeat (first | exact zsm_rf | assumption | refine zsm_C (by decide) ?_ | refine zsm_I (by decide) ?_ | refine zsm_J ?_ | refine zsm_c (by assumption) (by decide) ?_)) (Nat.lt_succ_self _)) (zwk_s rfl (zwk_s rfl zwk_0))

set_option maxHeartbeats 4000000 in
set_option maxRecDepth 100000 in
theorem c_X3_readJoint {l : Launch} {Γ : zΓ} {G : zH} {w : Nat} {k : Int} (hX : zXs Γ) (h1 : 1 ≤ G.1 704 (Γ.2.1 w 0) 0) (h2 : 0 ≤ G.1 402 w 0) (hk : 2 ≤ k ∧ k ≤ 14) : zMet l Γ yX3_readJoint cX3_readJoint 4 none 2 [zr 4 w, zi k] G (zpv (fun G' => zsm [402, 403, 404, 405, 406, 407, 408, 409, 410, 411, 412, 413, 2025, 206, 207, 2014, 2015, 2016, 2017, 2036, 2037, 2038, 2039, 2040, 2041, 2042, 2043, 609, 610, 611, 612] G G' ∧ (0 ≤ G'.1 402 w 0))) := by
  refine zMet_of RX3 hX (by decide) rfl (Nat.le_of_ble_eq_true rfl) ?_
  intro p e s m args below meth c C hr hlk
  show Z p l e (zrm 2) s m args below meth c Γ 4 0 0 (MQ below (zQc Γ (zpv (fun G' => zsm [402, 403, 404, 405, 406, 407, 408, 409, 410, 411, 412, 413, 2025, 206, 207, 2014, 2015, 2016, 2017, 2036, 2037, 2038, 2039, 2040, 2041, 2042, 2043, 609, 610, 611, 612] G G' ∧ (0 ≤ G'.1 402 w 0)))) args s 0 0 (zA Γ)) 0 [some (zr 4 w), some (zi k), none, none] [] G
  refine zs_loc 1 rfl (fun ha1 hb1 => ?_)
  refine zs_binds (pc := 0) C dX3_readJoint_0 q_X3_220 ?_
  refine zs_iload_n (pc := 3) C dX3_readJoint_3 rfl ?_
  refine zs_xald (pc := 4) C 1 dX3_readJoint_4 (by decide) rfl (by have := hX.1; have := hX.2.1; omega) (fun v4 e4 l4 u4 => ?_)
  refine zs_istore_n (pc := 5) C dX3_readJoint_5 (by decide) ?_
  dsimp only [zset, zclr, znone]
  refine zs_iload_n (pc := 6) C dX3_readJoint_6 rfl ?_
  refine zs_iconst (pc := 7) C dX3_readJoint_7 (by decide) ?_
  refine zs_icmp_ne (tgt := 15) (pc := 8) C dX3_readJoint_8 (by decide) (fun h8 => ?_) (fun h8 => ?_)
  · skip
    refine zs_iconst (pc := 15) C dX3_readJoint_15 (by decide) ?_
    refine zs_istore_n (pc := 16) C dX3_readJoint_16 (by decide) ?_
    dsimp only [zset, zclr, znone]
    refine zs_aload_n (pc := 17) C dX3_readJoint_17 rfl ?_
    refine zs_iload_n (pc := 18) C dX3_readJoint_18 rfl ?_
    refine zs_if_eq (tgt := 26) (pc := 19) C dX3_readJoint_19 (by decide) (fun h19 => ?_) (fun h19 => ?_)
    · skip
      refine zs_iload_n (pc := 26) C dX3_readJoint_26 rfl ?_
      refine zVv1 (pc := 27) C dX3_readJoint_27 v_X3_188 (c_X3_release hX (by omega) (by omega)) (by decide) (by decide) ⟨Nat.zero_le _, Nat.zero_le _⟩ (Nat.le_of_ble_eq_true rfl) (fun G27 hp27 => ?_)
      obtain ⟨hz27, hq27⟩ := hp27
      have tr27_704 := zsm_at hz27 704 (Γ.2.1 w 0) 0 (by decide)
      try simp only [zuI_1, zuI_2, zuJ_1, zuJ_2, zuJ_3, zuP_1, zuP_2, zuP_3, zuC_1, zuC_2, reduceIte, Nat.reduceEqDiff, false_and, and_false, true_and, and_true, and_self, or_true, true_or, or_false, false_or] at tr27_704
      have tr27_402 := zsm_at hz27 402 w 0 (by decide)
      try simp only [zuI_1, zuI_2, zuJ_1, zuJ_2, zuJ_3, zuP_1, zuP_2, zuP_3, zuC_1, zuC_2, reduceIte, Nat.reduceEqDiff, false_and, and_false, true_and, and_true, and_self, or_true, true_or, or_false, false_or] at tr27_402
      have tr27_407 := zsm_at hz27 407 w 0 (by decide)
      try simp only [zuI_1, zuI_2, zuJ_1, zuJ_2, zuJ_3, zuP_1, zuP_2, zuP_3, zuC_1, zuC_2, reduceIte, Nat.reduceEqDiff, false_and, and_false, true_and, and_true, and_self, or_true, true_or, or_false, false_or] at tr27_407
      refine zs_iload_n (pc := 30) C dX3_readJoint_30 rfl ?_
      refine zs_if_eq (tgt := 68) (pc := 31) C dX3_readJoint_31 (by decide) (fun h31 => ?_) (fun h31 => ?_)
      · skip
        refine zs_aload_n (pc := 68) C dX3_readJoint_68 rfl ?_
        refine zVi0 (pc := 69) C dX3_readJoint_69 v_X3_197 (c_X3_countKnot hX (by omega) (by omega)) (by decide) (by decide) ⟨Nat.zero_le _, Nat.zero_le _⟩ (Nat.le_of_ble_eq_true rfl) (fun x69 G69 l69 u69 hp69 => ?_)
        obtain ⟨hz69, hq69⟩ := hp69
        have tr69_704 := zsm_at hz69 704 (Γ.2.1 w 0) 0 (by decide)
        try simp only [zuI_1, zuI_2, zuJ_1, zuJ_2, zuJ_3, zuP_1, zuP_2, zuP_3, zuC_1, zuC_2, reduceIte, Nat.reduceEqDiff, false_and, and_false, true_and, and_true, and_self, or_true, true_or, or_false, false_or] at tr69_704
        refine zs_if_eq (tgt := 99) (pc := 72) C dX3_readJoint_72 (by decide) (fun h72 => ?_) (fun h72 => ?_)
        · skip
          exact zs_vret (pc := 99) C hr hlk dX3_readJoint_99 ⟨by repeat (first | exact zsm_rf | assumption | refine zsm_C (by decide) ?_ | refine zsm_I (by decide) ?_ | refine zsm_J ?_ | refine zsm_c (by assumption) (by decide) ?_), by first | omega | (simp only [zuI_1, zuI_2, zuJ_1, zuJ_2, zuJ_3, zuP_1, zuP_2, zuP_3, zuC_1, zuC_2, reduceIte, Nat.reduceEqDiff, false_and, and_false, true_and, and_true, and_self, or_true, true_or, or_false, false_or]; omega)⟩
        · skip
          refine zs_aload_n (pc := 75) C dX3_readJoint_75 rfl ?_
          refine zs_iconst (pc := 76) C dX3_readJoint_76 (by decide) ?_
          refine zs_putz (r := 412) (pc := 77) C dX3_readJoint_77 w_X3_171 f_4_12 rfl (r_412 0) (by omega) (by omega) ?_
          refine zs_aload_n (pc := 80) C dX3_readJoint_80 rfl ?_
          refine zs_iload_n (pc := 81) C dX3_readJoint_81 rfl ?_
          refine zs_iconst (pc := 82) C dX3_readJoint_82 (by decide) ?_
          refine zs_icmp_ge (tgt := 90) (pc := 83) C dX3_readJoint_83 (by decide) (fun h83 => ?_) (fun h83 => ?_)
          · skip
            refine zs_iconst (pc := 90) C dX3_readJoint_90 (by decide) ?_
            refine zs_putz (r := 413) (pc := 91) C dX3_readJoint_91 w_X3_175 f_4_13 rfl (r_413 0) (by omega) (by omega) ?_
            refine zs_aload_n (pc := 94) C dX3_readJoint_94 rfl ?_
            refine zs_iload_n (pc := 95) C dX3_readJoint_95 rfl ?_
            refine zVv1 (pc := 96) C dX3_readJoint_96 v_X3_200 (c_X3_push hX (by first | omega | (simp only [zuI_1, zuI_2, zuJ_1, zuJ_2, zuJ_3, zuP_1, zuP_2, zuP_3, zuC_1, zuC_2, reduceIte, Nat.reduceEqDiff, false_and, and_false, true_and, and_true, and_self, or_true, true_or, or_false, false_or]; omega)) (by first | omega | (simp only [zuI_1, zuI_2, zuJ_1, zuJ_2, zuJ_3, zuP_1, zuP_2, zuP_3, zuC_1, zuC_2, reduceIte, Nat.reduceEqDiff, false_and, and_false, true_and, and_true, and_self, or_true, true_or, or_false, false_or]; omega)) (by first | omega | (simp only [zuI_1, zuI_2, zuJ_1, zuJ_2, zuJ_3, zuP_1, zuP_2, zuP_3, zuC_1, zuC_2, reduceIte, Nat.reduceEqDiff, false_and, and_false, true_and, and_true, and_self, or_true, true_or, or_false, false_or]; omega))) (by decide) (by decide) ⟨Nat.zero_le _, Nat.zero_le _⟩ (Nat.le_of_ble_eq_true rfl) (fun G96 hp96 => ?_)
            obtain ⟨hz96, hq96⟩ := hp96
            try simp only [zuI_1, zuI_2, zuJ_1, zuJ_2, zuJ_3, zuP_1, zuP_2, zuP_3, zuC_1, zuC_2, reduceIte, Nat.reduceEqDiff, false_and, and_false, true_and, and_true, and_self, or_true, true_or, or_false, false_or] at hq96
            have tr96_704 := zsm_at hz96 704 (Γ.2.1 w 0) 0 (by decide)
            try simp only [zuI_1, zuI_2, zuJ_1, zuJ_2, zuJ_3, zuP_1, zuP_2, zuP_3, zuC_1, zuC_2, reduceIte, Nat.reduceEqDiff, false_and, and_false, true_and, and_true, and_self, or_true, true_or, or_false, false_or] at tr96_704
            exact zs_vret (pc := 99) C hr hlk dX3_readJoint_99 ⟨by repeat (first | exact zsm_rf | assumption | refine zsm_C (by decide) ?_ | refine zsm_I (by decide) ?_ | refine zsm_J ?_ | refine zsm_c (by assumption) (by decide) ?_), by first | omega | (simp only [zuI_1, zuI_2, zuJ_1, zuJ_2, zuJ_3, zuP_1, zuP_2, zuP_3, zuC_1, zuC_2, reduceIte, Nat.reduceEqDiff, false_and, and_false, true_and, and_true, and_self, or_true, true_or, or_false, false_or]; omega)⟩
          · skip
            refine zs_iconst (pc := 86) C dX3_readJoint_86 (by decide) ?_
            refine zs_goto (tgt := 91) (pc := 87) C dX3_readJoint_87 (by decide) ?_
            refine zs_putz (r := 413) (pc := 91) C dX3_readJoint_91 w_X3_175 f_4_13 rfl (r_413 0) (by omega) (by omega) ?_
            refine zs_aload_n (pc := 94) C dX3_readJoint_94 rfl ?_
            refine zs_iload_n (pc := 95) C dX3_readJoint_95 rfl ?_
            refine zVv1 (pc := 96) C dX3_readJoint_96 v_X3_200 (c_X3_push hX (by first | omega | (simp only [zuI_1, zuI_2, zuJ_1, zuJ_2, zuJ_3, zuP_1, zuP_2, zuP_3, zuC_1, zuC_2, reduceIte, Nat.reduceEqDiff, false_and, and_false, true_and, and_true, and_self, or_true, true_or, or_false, false_or]; omega)) (by first | omega | (simp only [zuI_1, zuI_2, zuJ_1, zuJ_2, zuJ_3, zuP_1, zuP_2, zuP_3, zuC_1, zuC_2, reduceIte, Nat.reduceEqDiff, false_and, and_false, true_and, and_true, and_self, or_true, true_or, or_false, false_or]; omega)) (by first | omega | (simp only [zuI_1, zuI_2, zuJ_1, zuJ_2, zuJ_3, zuP_1, zuP_2, zuP_3, zuC_1, zuC_2, reduceIte, Nat.reduceEqDiff, false_and, and_false, true_and, and_true, and_self, or_true, true_or, or_false, false_or]; omega))) (by decide) (by decide) ⟨Nat.zero_le _, Nat.zero_le _⟩ (Nat.le_of_ble_eq_true rfl) (fun G96 hp96 => ?_)
            obtain ⟨hz96, hq96⟩ := hp96
            try simp only [zuI_1, zuI_2, zuJ_1, zuJ_2, zuJ_3, zuP_1, zuP_2, zuP_3, zuC_1, zuC_2, reduceIte, Nat.reduceEqDiff, false_and, and_false, true_and, and_true, and_self, or_true, true_or, or_false, false_or] at hq96
            have tr96_704 := zsm_at hz96 704 (Γ.2.1 w 0) 0 (by decide)
            try simp only [zuI_1, zuI_2, zuJ_1, zuJ_2, zuJ_3, zuP_1, zuP_2, zuP_3, zuC_1, zuC_2, reduceIte, Nat.reduceEqDiff, false_and, and_false, true_and, and_true, and_self, or_true, true_or, or_false, false_or] at tr96_704
            exact zs_vret (pc := 99) C hr hlk dX3_readJoint_99 ⟨by repeat (first | exact zsm_rf | assumption | refine zsm_C (by decide) ?_ | refine zsm_I (by decide) ?_ | refine zsm_J ?_ | refine zsm_c (by assumption) (by decide) ?_), by first | omega | (simp only [zuI_1, zuI_2, zuJ_1, zuJ_2, zuJ_3, zuP_1, zuP_2, zuP_3, zuC_1, zuC_2, reduceIte, Nat.reduceEqDiff, false_and, and_false, true_and, and_true, and_self, or_true, true_or, or_false, false_or]; omega)⟩
      · skip
        refine zs_aload_n (pc := 34) C dX3_readJoint_34 rfl ?_
        refine zs_geti (r := 410) (pc := 35) C dX3_readJoint_35 w_X3_165 f_4_10 rfl (r_410 0) (fun v35 e35 l35 u35 => ?_)
        refine zs_if_le (tgt := 68) (pc := 38) C dX3_readJoint_38 (by decide) (fun h38 => ?_) (fun h38 => ?_)
        · skip
          refine zs_aload_n (pc := 68) C dX3_readJoint_68 rfl ?_
          refine zVi0 (pc := 69) C dX3_readJoint_69 v_X3_197 (c_X3_countKnot hX (by omega) (by omega)) (by decide) (by decide) ⟨Nat.zero_le _, Nat.zero_le _⟩ (Nat.le_of_ble_eq_true rfl) (fun x69 G69 l69 u69 hp69 => ?_)
          obtain ⟨hz69, hq69⟩ := hp69
          have tr69_704 := zsm_at hz69 704 (Γ.2.1 w 0) 0 (by decide)
          try simp only [zuI_1, zuI_2, zuJ_1, zuJ_2, zuJ_3, zuP_1, zuP_2, zuP_3, zuC_1, zuC_2, reduceIte, Nat.reduceEqDiff, false_and, and_false, true_and, and_true, and_self, or_true, true_or, or_false, false_or] at tr69_704
          refine zs_if_eq (tgt := 99) (pc := 72) C dX3_readJoint_72 (by decide) (fun h72 => ?_) (fun h72 => ?_)
          · skip
            exact zs_vret (pc := 99) C hr hlk dX3_readJoint_99 ⟨by repeat (first | exact zsm_rf | assumption | refine zsm_C (by decide) ?_ | refine zsm_I (by decide) ?_ | refine zsm_J ?_ | refine zsm_c (by assumption) (by decide) ?_), by first | omega | (simp only [zuI_1, zuI_2, zuJ_1, zuJ_2, zuJ_3, zuP_1, zuP_2, zuP_3, zuC_1, zuC_2, reduceIte, Nat.reduceEqDiff, false_and, and_false, true_and, and_true, and_self, or_true, true_or, or_false, false_or]; omega)⟩
          · skip
            refine zs_aload_n (pc := 75) C dX3_readJoint_75 rfl ?_
            refine zs_iconst (pc := 76) C dX3_readJoint_76 (by decide) ?_
            refine zs_putz (r := 412) (pc := 77) C dX3_readJoint_77 w_X3_171 f_4_12 rfl (r_412 0) (by omega) (by omega) ?_
            refine zs_aload_n (pc := 80) C dX3_readJoint_80 rfl ?_
            refine zs_iload_n (pc := 81) C dX3_readJoint_81 rfl ?_
            refine zs_iconst (pc := 82) C dX3_readJoint_82 (by decide) ?_
            refine zs_icmp_ge (tgt := 90) (pc := 83) C dX3_readJoint_83 (by decide) (fun h83 => ?_) (fun h83 => ?_)
            · skip
              refine zs_iconst (pc := 90) C dX3_readJoint_90 (by decide) ?_
              refine zs_putz (r := 413) (pc := 91) C dX3_readJoint_91 w_X3_175 f_4_13 rfl (r_413 0) (by omega) (by omega) ?_
              refine zs_aload_n (pc := 94) C dX3_readJoint_94 rfl ?_
              refine zs_iload_n (pc := 95) C dX3_readJoint_95 rfl ?_
              refine zVv1 (pc := 96) C dX3_readJoint_96 v_X3_200 (c_X3_push hX (by first | omega | (simp only [zuI_1, zuI_2, zuJ_1, zuJ_2, zuJ_3, zuP_1, zuP_2, zuP_3, zuC_1, zuC_2, reduceIte, Nat.reduceEqDiff, false_and, and_false, true_and, and_true, and_self, or_true, true_or, or_false, false_or]; omega)) (by first | omega | (simp only [zuI_1, zuI_2, zuJ_1, zuJ_2, zuJ_3, zuP_1, zuP_2, zuP_3, zuC_1, zuC_2, reduceIte, Nat.reduceEqDiff, false_and, and_false, true_and, and_true, and_self, or_true, true_or, or_false, false_or]; omega)) (by first | omega | (simp only [zuI_1, zuI_2, zuJ_1, zuJ_2, zuJ_3, zuP_1, zuP_2, zuP_3, zuC_1, zuC_2, reduceIte, Nat.reduceEqDiff, false_and, and_false, true_and, and_true, and_self, or_true, true_or, or_false, false_or]; omega))) (by decide) (by decide) ⟨Nat.zero_le _, Nat.zero_le _⟩ (Nat.le_of_ble_eq_true rfl) (fun G96 hp96 => ?_)
              obtain ⟨hz96, hq96⟩ := hp96
              try simp only [zuI_1, zuI_2, zuJ_1, zuJ_2, zuJ_3, zuP_1, zuP_2, zuP_3, zuC_1, zuC_2, reduceIte, Nat.reduceEqDiff, false_and, and_false, true_and, and_true, and_self, or_true, true_or, or_false, false_or] at hq96
              have tr96_704 := zsm_at hz96 704 (Γ.2.1 w 0) 0 (by decide)
              try simp only [zuI_1, zuI_2, zuJ_1, zuJ_2, zuJ_3, zuP_1, zuP_2, zuP_3, zuC_1, zuC_2, reduceIte, Nat.reduceEqDiff, false_and, and_false, true_and, and_true, and_self, or_true, true_or, or_false, false_or] at tr96_704
              exact zs_vret (pc := 99) C hr hlk dX3_readJoint_99 ⟨by repeat (first | exact zsm_rf | assumption | refine zsm_C (by decide) ?_ | refine zsm_I (by decide) ?_ | refine zsm_J ?_ | refine zsm_c (by assumption) (by decide) ?_), by first | omega | (simp only [zuI_1, zuI_2, zuJ_1, zuJ_2, zuJ_3, zuP_1, zuP_2, zuP_3, zuC_1, zuC_2, reduceIte, Nat.reduceEqDiff, false_and, and_false, true_and, and_true, and_self, or_true, true_or, or_false, false_or]; omega)⟩
            · skip
              refine zs_iconst (pc := 86) C dX3_readJoint_86 (by decide) ?_
              refine zs_goto (tgt := 91) (pc := 87) C dX3_readJoint_87 (by decide) ?_
              refine zs_putz (r := 413) (pc := 91) C dX3_readJoint_91 w_X3_175 f_4_13 rfl (r_413 0) (by omega) (by omega) ?_
              refine zs_aload_n (pc := 94) C dX3_readJoint_94 rfl ?_
              refine zs_iload_n (pc := 95) C dX3_readJoint_95 rfl ?_
              refine zVv1 (pc := 96) C dX3_readJoint_96 v_X3_200 (c_X3_push hX (by first | omega | (simp only [zuI_1, zuI_2, zuJ_1, zuJ_2, zuJ_3, zuP_1, zuP_2, zuP_3, zuC_1, zuC_2, reduceIte, Nat.reduceEqDiff, false_and, and_false, true_and, and_true, and_self, or_true, true_or, or_false, false_or]; omega)) (by first | omega | (simp only [zuI_1, zuI_2, zuJ_1, zuJ_2, zuJ_3, zuP_1, zuP_2, zuP_3, zuC_1, zuC_2, reduceIte, Nat.reduceEqDiff, false_and, and_false, true_and, and_true, and_self, or_true, true_or, or_false, false_or]; omega)) (by first | omega | (simp only [zuI_1, zuI_2, zuJ_1, zuJ_2, zuJ_3, zuP_1, zuP_2, zuP_3, zuC_1, zuC_2, reduceIte, Nat.reduceEqDiff, false_and, and_false, true_and, and_true, and_self, or_true, true_or, or_false, false_or]; omega))) (by decide) (by decide) ⟨Nat.zero_le _, Nat.zero_le _⟩ (Nat.le_of_ble_eq_true rfl) (fun G96 hp96 => ?_)
              obtain ⟨hz96, hq96⟩ := hp96
              try simp only [zuI_1, zuI_2, zuJ_1, zuJ_2, zuJ_3, zuP_1, zuP_2, zuP_3, zuC_1, zuC_2, reduceIte, Nat.reduceEqDiff, false_and, and_false, true_and, and_true, and_self, or_true, true_or, or_false, false_or] at hq96
              have tr96_704 := zsm_at hz96 704 (Γ.2.1 w 0) 0 (by decide)
              try simp only [zuI_1, zuI_2, zuJ_1, zuJ_2, zuJ_3, zuP_1, zuP_2, zuP_3, zuC_1, zuC_2, reduceIte, Nat.reduceEqDiff, false_and, and_false, true_and, and_true, and_self, or_true, true_or, or_false, false_or] at tr96_704
              exact zs_vret (pc := 99) C hr hlk dX3_readJoint_99 ⟨by repeat (first | exact zsm_rf | assumption | refine zsm_C (by decide) ?_ | refine zsm_I (by decide) ?_ | refine zsm_J ?_ | refine zsm_c (by assumption) (by decide) ?_), by first | omega | (simp only [zuI_1, zuI_2, zuJ_1, zuJ_2, zuJ_3, zuP_1, zuP_2, zuP_3, zuC_1, zuC_2, reduceIte, Nat.reduceEqDiff, false_and, and_false, true_and, and_true, and_self, or_true, true_or, or_false, false_or]; omega)⟩
        · skip
          refine zs_binds (pc := 41) C dX3_readJoint_41 q_X3_220 ?_
          refine zs_aload_n (pc := 44) C dX3_readJoint_44 rfl ?_
          refine zs_getf (pc := 45) C dX3_readJoint_45 w_X3_27 f_4_9 (by decide) ?_
          refine zs_aload_n (pc := 48) C dX3_readJoint_48 rfl ?_
          refine zs_geti (r := 410) (pc := 49) C dX3_readJoint_49 w_X3_165 f_4_10 rfl (r_410 0) (fun v49 e49 l49 u49 => ?_)
          refine zs_iconst (pc := 52) C dX3_readJoint_52 (by decide) ?_
          first | refine zs_isub (pc := 53) C dX3_readJoint_53 (by omega) ?_ | refine zs_isubF (pc := 53) C dX3_readJoint_53 (fun z53 hz531 hz532 => ?_)
          refine zs_iald (r := 2025) (pc := 54) C dX3_readJoint_54 a_25 (by decide) (by omega) rfl (r_2025 _) (fun v54 e54 l54 u54 => ?_)
          refine zs_xald (pc := 55) C 1 dX3_readJoint_55 (by decide) rfl (by have := hX.1; have := hX.2.1; omega) (fun v55 e55 l55 u55 => ?_)
          refine zs_iconst (pc := 56) C dX3_readJoint_56 (by decide) ?_
          refine zs_icmp_ne (tgt := 68) (pc := 57) C dX3_readJoint_57 (by decide) (fun h57 => ?_) (fun h57 => ?_)
          · skip
            refine zs_aload_n (pc := 68) C dX3_readJoint_68 rfl ?_
            refine zVi0 (pc := 69) C dX3_readJoint_69 v_X3_197 (c_X3_countKnot hX (by omega) (by omega)) (by decide) (by decide) ⟨Nat.zero_le _, Nat.zero_le _⟩ (Nat.le_of_ble_eq_true rfl) (fun x69 G69 l69 u69 hp69 => ?_)
            obtain ⟨hz69, hq69⟩ := hp69
            have tr69_704 := zsm_at hz69 704 (Γ.2.1 w 0) 0 (by decide)
            try simp only [zuI_1, zuI_2, zuJ_1, zuJ_2, zuJ_3, zuP_1, zuP_2, zuP_3, zuC_1, zuC_2, reduceIte, Nat.reduceEqDiff, false_and, and_false, true_and, and_true, and_self, or_true, true_or, or_false, false_or] at tr69_704
            refine zs_if_eq (tgt := 99) (pc := 72) C dX3_readJoint_72 (by decide) (fun h72 => ?_) (fun h72 => ?_)
            · skip
              exact zs_vret (pc := 99) C hr hlk dX3_readJoint_99 ⟨by repeat (first | exact zsm_rf | assumption | refine zsm_C (by decide) ?_ | refine zsm_I (by decide) ?_ | refine zsm_J ?_ | refine zsm_c (by assumption) (by decide) ?_), by first | omega | (simp only [zuI_1, zuI_2, zuJ_1, zuJ_2, zuJ_3, zuP_1, zuP_2, zuP_3, zuC_1, zuC_2, reduceIte, Nat.reduceEqDiff, false_and, and_false, true_and, and_true, and_self, or_true, true_or, or_false, false_or]; omega)⟩
            · skip
              refine zs_aload_n (pc := 75) C dX3_readJoint_75 rfl ?_
              refine zs_iconst (pc := 76) C dX3_readJoint_76 (by decide) ?_
              refine zs_putz (r := 412) (pc := 77) C dX3_readJoint_77 w_X3_171 f_4_12 rfl (r_412 0) (by omega) (by omega) ?_
              refine zs_aload_n (pc := 80) C dX3_readJoint_80 rfl ?_
              refine zs_iload_n (pc := 81) C dX3_readJoint_81 rfl ?_
              refine zs_iconst (pc := 82) C dX3_readJoint_82 (by decide) ?_
              refine zs_icmp_ge (tgt := 90) (pc := 83) C dX3_readJoint_83 (by decide) (fun h83 => ?_) (fun h83 => ?_)
              · skip
                refine zs_iconst (pc := 90) C dX3_readJoint_90 (by decide) ?_
                refine zs_putz (r := 413) (pc := 91) C dX3_readJoint_91 w_X3_175 f_4_13 rfl (r_413 0) (by omega) (by omega) ?_
                refine zs_aload_n (pc := 94) C dX3_readJoint_94 rfl ?_
                refine zs_iload_n (pc := 95) C dX3_readJoint_95 rfl ?_
                refine zVv1 (pc := 96) C dX3_readJoint_96 v_X3_200 (c_X3_push hX (by first | omega | (simp only [zuI_1, zuI_2, zuJ_1, zuJ_2, zuJ_3, zuP_1, zuP_2, zuP_3, zuC_1, zuC_2, reduceIte, Nat.reduceEqDiff, false_and, and_false, true_and, and_true, and_self, or_true, true_or, or_false, false_or]; omega)) (by first | omega | (simp only [zuI_1, zuI_2, zuJ_1, zuJ_2, zuJ_3, zuP_1, zuP_2, zuP_3, zuC_1, zuC_2, reduceIte, Nat.reduceEqDiff, false_and, and_false, true_and, and_true, and_self, or_true, true_or, or_false, false_or]; omega)) (by first | omega | (simp only [zuI_1, zuI_2, zuJ_1, zuJ_2, zuJ_3, zuP_1, zuP_2, zuP_3, zuC_1, zuC_2, reduceIte, Nat.reduceEqDiff, false_and, and_false, true_and, and_true, and_self, or_true, true_or, or_false, false_or]; omega))) (by decide) (by decide) ⟨Nat.zero_le _, Nat.zero_le _⟩ (Nat.le_of_ble_eq_true rfl) (fun G96 hp96 => ?_)
                obtain ⟨hz96, hq96⟩ := hp96
                try simp only [zuI_1, zuI_2, zuJ_1, zuJ_2, zuJ_3, zuP_1, zuP_2, zuP_3, zuC_1, zuC_2, reduceIte, Nat.reduceEqDiff, false_and, and_false, true_and, and_true, and_self, or_true, true_or, or_false, false_or] at hq96
                have tr96_704 := zsm_at hz96 704 (Γ.2.1 w 0) 0 (by decide)
                try simp only [zuI_1, zuI_2, zuJ_1, zuJ_2, zuJ_3, zuP_1, zuP_2, zuP_3, zuC_1, zuC_2, reduceIte, Nat.reduceEqDiff, false_and, and_false, true_and, and_true, and_self, or_true, true_or, or_false, false_or] at tr96_704
                exact zs_vret (pc := 99) C hr hlk dX3_readJoint_99 ⟨by repeat (first | exact zsm_rf | assumption | refine zsm_C (by decide) ?_ | refine zsm_I (by decide) ?_ | refine zsm_J ?_ | refine zsm_c (by assumption) (by decide) ?_), by first | omega | (simp only [zuI_1, zuI_2, zuJ_1, zuJ_2, zuJ_3, zuP_1, zuP_2, zuP_3, zuC_1, zuC_2, reduceIte, Nat.reduceEqDiff, false_and, and_false, true_and, and_true, and_self, or_true, true_or, or_false, false_or]; omega)⟩
              · skip
                refine zs_iconst (pc := 86) C dX3_readJoint_86 (by decide) ?_
                refine zs_goto (tgt := 91) (pc := 87) C dX3_readJoint_87 (by decide) ?_
                refine zs_putz (r := 413) (pc := 91) C dX3_readJoint_91 w_X3_175 f_4_13 rfl (r_413 0) (by omega) (by omega) ?_
                refine zs_aload_n (pc := 94) C dX3_readJoint_94 rfl ?_
                refine zs_iload_n (pc := 95) C dX3_readJoint_95 rfl ?_
                refine zVv1 (pc := 96) C dX3_readJoint_96 v_X3_200 (c_X3_push hX (by first | omega | (simp only [zuI_1, zuI_2, zuJ_1, zuJ_2, zuJ_3, zuP_1, zuP_2, zuP_3, zuC_1, zuC_2, reduceIte, Nat.reduceEqDiff, false_and, and_false, true_and, and_true, and_self, or_true, true_or, or_false, false_or]; omega)) (by first | omega | (simp only [zuI_1, zuI_2, zuJ_1, zuJ_2, zuJ_3, zuP_1, zuP_2, zuP_3, zuC_1, zuC_2, reduceIte, Nat.reduceEqDiff, false_and, and_false, true_and, and_true, and_self, or_true, true_or, or_false, false_or]; omega)) (by first | omega | (simp only [zuI_1, zuI_2, zuJ_1, zuJ_2, zuJ_3, zuP_1, zuP_2, zuP_3, zuC_1, zuC_2, reduceIte, Nat.reduceEqDiff, false_and, and_false, true_and, and_true, and_self, or_true, true_or, or_false, false_or]; omega))) (by decide) (by decide) ⟨Nat.zero_le _, Nat.zero_le _⟩ (Nat.le_of_ble_eq_true rfl) (fun G96 hp96 => ?_)
                obtain ⟨hz96, hq96⟩ := hp96
                try simp only [zuI_1, zuI_2, zuJ_1, zuJ_2, zuJ_3, zuP_1, zuP_2, zuP_3, zuC_1, zuC_2, reduceIte, Nat.reduceEqDiff, false_and, and_false, true_and, and_true, and_self, or_true, true_or, or_false, false_or] at hq96
                have tr96_704 := zsm_at hz96 704 (Γ.2.1 w 0) 0 (by decide)
                try simp only [zuI_1, zuI_2, zuJ_1, zuJ_2, zuJ_3, zuP_1, zuP_2, zuP_3, zuC_1, zuC_2, reduceIte, Nat.reduceEqDiff, false_and, and_false, true_and, and_true, and_self, or_true, true_or, or_false, false_or] at tr96_704
                exact zs_vret (pc := 99) C hr hlk dX3_readJoint_99 ⟨by repeat (first | exact zsm_rf | assumption | refine zsm_C (by decide) ?_ | refine zsm_I (by decide) ?_ | refine zsm_J ?_ | refine zsm_c (by assumption) (by decide) ?_), by first | omega | (simp only [zuI_1, zuI_2, zuJ_1, zuJ_2, zuJ_3, zuP_1, zuP_2, zuP_3, zuC_1, zuC_2, reduceIte, Nat.reduceEqDiff, false_and, and_false, true_and, and_true, and_self, or_true, true_or, or_false, false_or]; omega)⟩
          · skip
            refine zs_aload_n (pc := 60) C dX3_readJoint_60 rfl ?_
            refine zs_iconst (pc := 61) C dX3_readJoint_61 (by decide) ?_
            refine zVv1 (pc := 62) C dX3_readJoint_62 v_X3_114 (c_X3_fail hX (by omega) (by omega)) (by decide) (by decide) ⟨Nat.zero_le _, Nat.zero_le _⟩ (Nat.le_of_ble_eq_true rfl) (fun G62 hp62 => ?_)
            obtain ⟨hz62, hq62⟩ := hp62
            have tr62_704 := zsm_at hz62 704 (Γ.2.1 w 0) 0 (by decide)
            try simp only [zuI_1, zuI_2, zuJ_1, zuJ_2, zuJ_3, zuP_1, zuP_2, zuP_3, zuC_1, zuC_2, reduceIte, Nat.reduceEqDiff, false_and, and_false, true_and, and_true, and_self, or_true, true_or, or_false, false_or] at tr62_704
            have tr62_402 := zsm_at hz62 402 w 0 (by decide)
            try simp only [zuI_1, zuI_2, zuJ_1, zuJ_2, zuJ_3, zuP_1, zuP_2, zuP_3, zuC_1, zuC_2, reduceIte, Nat.reduceEqDiff, false_and, and_false, true_and, and_true, and_self, or_true, true_or, or_false, false_or] at tr62_402
            refine zs_goto (tgt := 99) (pc := 65) C dX3_readJoint_65 (by decide) ?_
            exact zs_vret (pc := 99) C hr hlk dX3_readJoint_99 ⟨by repeat (first | exact zsm_rf | assumption | refine zsm_C (by decide) ?_ | refine zsm_I (by decide) ?_ | refine zsm_J ?_ | refine zsm_c (by assumption) (by decide) ?_), by first | omega | (simp only [zuI_1, zuI_2, zuJ_1, zuJ_2, zuJ_3, zuP_1, zuP_2, zuP_3, zuC_1, zuC_2, reduceIte, Nat.reduceEqDiff, false_and, and_false, true_and, and_true, and_self, or_true, true_or, or_false, false_or]; omega)⟩
    · skip
      refine zs_iconst (pc := 22) C dX3_readJoint_22 (by decide) ?_
      refine zs_goto (tgt := 27) (pc := 23) C dX3_readJoint_23 (by decide) ?_
      refine zVv1 (pc := 27) C dX3_readJoint_27 v_X3_188 (c_X3_release hX (by omega) (by omega)) (by decide) (by decide) ⟨Nat.zero_le _, Nat.zero_le _⟩ (Nat.le_of_ble_eq_true rfl) (fun G27 hp27 => ?_)
      obtain ⟨hz27, hq27⟩ := hp27
      have tr27_704 := zsm_at hz27 704 (Γ.2.1 w 0) 0 (by decide)
      try simp only [zuI_1, zuI_2, zuJ_1, zuJ_2, zuJ_3, zuP_1, zuP_2, zuP_3, zuC_1, zuC_2, reduceIte, Nat.reduceEqDiff, false_and, and_false, true_and, and_true, and_self, or_true, true_or, or_false, false_or] at tr27_704
      have tr27_402 := zsm_at hz27 402 w 0 (by decide)
      try simp only [zuI_1, zuI_2, zuJ_1, zuJ_2, zuJ_3, zuP_1, zuP_2, zuP_3, zuC_1, zuC_2, reduceIte, Nat.reduceEqDiff, false_and, and_false, true_and, and_true, and_self, or_true, true_or, or_false, false_or] at tr27_402
      have tr27_407 := zsm_at hz27 407 w 0 (by decide)
      try simp only [zuI_1, zuI_2, zuJ_1, zuJ_2, zuJ_3, zuP_1, zuP_2, zuP_3, zuC_1, zuC_2, reduceIte, Nat.reduceEqDiff, false_and, and_false, true_and, and_true, and_self, or_true, true_or, or_false, false_or] at tr27_407
      refine zs_iload_n (pc := 30) C dX3_readJoint_30 rfl ?_
      refine zs_if_eq (tgt := 68) (pc := 31) C dX3_readJoint_31 (by decide) (fun h31 => ?_) (fun h31 => ?_)
      · skip
        refine zs_aload_n (pc := 68) C dX3_readJoint_68 rfl ?_
        refine zVi0 (pc := 69) C dX3_readJoint_69 v_X3_197 (c_X3_countKnot hX (by omega) (by omega)) (by decide) (by decide) ⟨Nat.zero_le _, Nat.zero_le _⟩ (Nat.le_of_ble_eq_true rfl) (fun x69 G69 l69 u69 hp69 => ?_)
        obtain ⟨hz69, hq69⟩ := hp69
        have tr69_704 := zsm_at hz69 704 (Γ.2.1 w 0) 0 (by decide)
        try simp only [zuI_1, zuI_2, zuJ_1, zuJ_2, zuJ_3, zuP_1, zuP_2, zuP_3, zuC_1, zuC_2, reduceIte, Nat.reduceEqDiff, false_and, and_false, true_and, and_true, and_self, or_true, true_or, or_false, false_or] at tr69_704
        refine zs_if_eq (tgt := 99) (pc := 72) C dX3_readJoint_72 (by decide) (fun h72 => ?_) (fun h72 => ?_)
        · skip
          exact zs_vret (pc := 99) C hr hlk dX3_readJoint_99 ⟨by repeat (first | exact zsm_rf | assumption | refine zsm_C (by decide) ?_ | refine zsm_I (by decide) ?_ | refine zsm_J ?_ | refine zsm_c (by assumption) (by decide) ?_), by first | omega | (simp only [zuI_1, zuI_2, zuJ_1, zuJ_2, zuJ_3, zuP_1, zuP_2, zuP_3, zuC_1, zuC_2, reduceIte, Nat.reduceEqDiff, false_and, and_false, true_and, and_true, and_self, or_true, true_or, or_false, false_or]; omega)⟩
        · skip
          refine zs_aload_n (pc := 75) C dX3_readJoint_75 rfl ?_
          refine zs_iconst (pc := 76) C dX3_readJoint_76 (by decide) ?_
          refine zs_putz (r := 412) (pc := 77) C dX3_readJoint_77 w_X3_171 f_4_12 rfl (r_412 0) (by omega) (by omega) ?_
          refine zs_aload_n (pc := 80) C dX3_readJoint_80 rfl ?_
          refine zs_iload_n (pc := 81) C dX3_readJoint_81 rfl ?_
          refine zs_iconst (pc := 82) C dX3_readJoint_82 (by decide) ?_
          refine zs_icmp_ge (tgt := 90) (pc := 83) C dX3_readJoint_83 (by decide) (fun h83 => ?_) (fun h83 => ?_)
          · skip
            refine zs_iconst (pc := 90) C dX3_readJoint_90 (by decide) ?_
            refine zs_putz (r := 413) (pc := 91) C dX3_readJoint_91 w_X3_175 f_4_13 rfl (r_413 0) (by omega) (by omega) ?_
            refine zs_aload_n (pc := 94) C dX3_readJoint_94 rfl ?_
            refine zs_iload_n (pc := 95) C dX3_readJoint_95 rfl ?_
            refine zVv1 (pc := 96) C dX3_readJoint_96 v_X3_200 (c_X3_push hX (by first | omega | (simp only [zuI_1, zuI_2, zuJ_1, zuJ_2, zuJ_3, zuP_1, zuP_2, zuP_3, zuC_1, zuC_2, reduceIte, Nat.reduceEqDiff, false_and, and_false, true_and, and_true, and_self, or_true, true_or, or_false, false_or]; omega)) (by first | omega | (simp only [zuI_1, zuI_2, zuJ_1, zuJ_2, zuJ_3, zuP_1, zuP_2, zuP_3, zuC_1, zuC_2, reduceIte, Nat.reduceEqDiff, false_and, and_false, true_and, and_true, and_self, or_true, true_or, or_false, false_or]; omega)) (by first | omega | (simp only [zuI_1, zuI_2, zuJ_1, zuJ_2, zuJ_3, zuP_1, zuP_2, zuP_3, zuC_1, zuC_2, reduceIte, Nat.reduceEqDiff, false_and, and_false, true_and, and_true, and_self, or_true, true_or, or_false, false_or]; omega))) (by decide) (by decide) ⟨Nat.zero_le _, Nat.zero_le _⟩ (Nat.le_of_ble_eq_true rfl) (fun G96 hp96 => ?_)
            obtain ⟨hz96, hq96⟩ := hp96
            try simp only [zuI_1, zuI_2, zuJ_1, zuJ_2, zuJ_3, zuP_1, zuP_2, zuP_3, zuC_1, zuC_2, reduceIte, Nat.reduceEqDiff, false_and, and_false, true_and, and_true, and_self, or_true, true_or, or_false, false_or] at hq96
            have tr96_704 := zsm_at hz96 704 (Γ.2.1 w 0) 0 (by decide)
            try simp only [zuI_1, zuI_2, zuJ_1, zuJ_2, zuJ_3, zuP_1, zuP_2, zuP_3, zuC_1, zuC_2, reduceIte, Nat.reduceEqDiff, false_and, and_false, true_and, and_true, and_self, or_true, true_or, or_false, false_or] at tr96_704
            exact zs_vret (pc := 99) C hr hlk dX3_readJoint_99 ⟨by repeat (first | exact zsm_rf | assumption | refine zsm_C (by decide) ?_ | refine zsm_I (by decide) ?_ | refine zsm_J ?_ | refine zsm_c (by assumption) (by decide) ?_), by first | omega | (simp only [zuI_1, zuI_2, zuJ_1, zuJ_2, zuJ_3, zuP_1, zuP_2, zuP_3, zuC_1, zuC_2, reduceIte, Nat.reduceEqDiff, false_and, and_false, true_and, and_true, and_self, or_true, true_or, or_false, false_or]; omega)⟩
          · skip
            refine zs_iconst (pc := 86) C dX3_readJoint_86 (by decide) ?_
            refine zs_goto (tgt := 91) (pc := 87) C dX3_readJoint_87 (by decide) ?_
            refine zs_putz (r := 413) (pc := 91) C dX3_readJoint_91 w_X3_175 f_4_13 rfl (r_413 0) (by omega) (by omega) ?_
            refine zs_aload_n (pc := 94) C dX3_readJoint_94 rfl ?_
            refine zs_iload_n (pc := 95) C dX3_readJoint_95 rfl ?_
            refine zVv1 (pc := 96) C dX3_readJoint_96 v_X3_200 (c_X3_push hX (by first | omega | (simp only [zuI_1, zuI_2, zuJ_1, zuJ_2, zuJ_3, zuP_1, zuP_2, zuP_3, zuC_1, zuC_2, reduceIte, Nat.reduceEqDiff, false_and, and_false, true_and, and_true, and_self, or_true, true_or, or_false, false_or]; omega)) (by first | omega | (simp only [zuI_1, zuI_2, zuJ_1, zuJ_2, zuJ_3, zuP_1, zuP_2, zuP_3, zuC_1, zuC_2, reduceIte, Nat.reduceEqDiff, false_and, and_false, true_and, and_true, and_self, or_true, true_or, or_false, false_or]; omega)) (by first | omega | (simp only [zuI_1, zuI_2, zuJ_1, zuJ_2, zuJ_3, zuP_1, zuP_2, zuP_3, zuC_1, zuC_2, reduceIte, Nat.reduceEqDiff, false_and, and_false, true_and, and_true, and_self, or_true, true_or, or_false, false_or]; omega))) (by decide) (by decide) ⟨Nat.zero_le _, Nat.zero_le _⟩ (Nat.le_of_ble_eq_true rfl) (fun G96 hp96 => ?_)
            obtain ⟨hz96, hq96⟩ := hp96
            try simp only [zuI_1, zuI_2, zuJ_1, zuJ_2, zuJ_3, zuP_1, zuP_2, zuP_3, zuC_1, zuC_2, reduceIte, Nat.reduceEqDiff, false_and, and_false, true_and, and_true, and_self, or_true, true_or, or_false, false_or] at hq96
            have tr96_704 := zsm_at hz96 704 (Γ.2.1 w 0) 0 (by decide)
            try simp only [zuI_1, zuI_2, zuJ_1, zuJ_2, zuJ_3, zuP_1, zuP_2, zuP_3, zuC_1, zuC_2, reduceIte, Nat.reduceEqDiff, false_and, and_false, true_and, and_true, and_self, or_true, true_or, or_false, false_or] at tr96_704
            exact zs_vret (pc := 99) C hr hlk dX3_readJoint_99 ⟨by repeat (first | exact zsm_rf | assumption | refine zsm_C (by decide) ?_ | refine zsm_I (by decide) ?_ | refine zsm_J ?_ | refine zsm_c (by assumption) (by decide) ?_), by first | omega | (simp only [zuI_1, zuI_2, zuJ_1, zuJ_2, zuJ_3, zuP_1, zuP_2, zuP_3, zuC_1, zuC_2, reduceIte, Nat.reduceEqDiff, false_and, and_false, true_and, and_true, and_self, or_true, true_or, or_false, false_or]; omega)⟩
      · skip
        refine zs_aload_n (pc := 34) C dX3_readJoint_34 rfl ?_
        refine zs_geti (r := 410) (pc := 35) C dX3_readJoint_35 w_X3_165 f_4_10 rfl (r_410 0) (fun v35 e35 l35 u35 => ?_)
        refine zs_if_le (tgt := 68) (pc := 38) C dX3_readJoint_38 (by decide) (fun h38 => ?_) (fun h38 => ?_)
        · skip
          refine zs_aload_n (pc := 68) C dX3_readJoint_68 rfl ?_
          refine zVi0 (pc := 69) C dX3_readJoint_69 v_X3_197 (c_X3_countKnot hX (by omega) (by omega)) (by decide) (by decide) ⟨Nat.zero_le _, Nat.zero_le _⟩ (Nat.le_of_ble_eq_true rfl) (fun x69 G69 l69 u69 hp69 => ?_)
          obtain ⟨hz69, hq69⟩ := hp69
          have tr69_704 := zsm_at hz69 704 (Γ.2.1 w 0) 0 (by decide)
          try simp only [zuI_1, zuI_2, zuJ_1, zuJ_2, zuJ_3, zuP_1, zuP_2, zuP_3, zuC_1, zuC_2, reduceIte, Nat.reduceEqDiff, false_and, and_false, true_and, and_true, and_self, or_true, true_or, or_false, false_or] at tr69_704
          refine zs_if_eq (tgt := 99) (pc := 72) C dX3_readJoint_72 (by decide) (fun h72 => ?_) (fun h72 => ?_)
          · skip
            exact zs_vret (pc := 99) C hr hlk dX3_readJoint_99 ⟨by repeat (first | exact zsm_rf | assumption | refine zsm_C (by decide) ?_ | refine zsm_I (by decide) ?_ | refine zsm_J ?_ | refine zsm_c (by assumption) (by decide) ?_), by first | omega | (simp only [zuI_1, zuI_2, zuJ_1, zuJ_2, zuJ_3, zuP_1, zuP_2, zuP_3, zuC_1, zuC_2, reduceIte, Nat.reduceEqDiff, false_and, and_false, true_and, and_true, and_self, or_true, true_or, or_false, false_or]; omega)⟩
          · skip
            refine zs_aload_n (pc := 75) C dX3_readJoint_75 rfl ?_
            refine zs_iconst (pc := 76) C dX3_readJoint_76 (by decide) ?_
            refine zs_putz (r := 412) (pc := 77) C dX3_readJoint_77 w_X3_171 f_4_12 rfl (r_412 0) (by omega) (by omega) ?_
            refine zs_aload_n (pc := 80) C dX3_readJoint_80 rfl ?_
            refine zs_iload_n (pc := 81) C dX3_readJoint_81 rfl ?_
            refine zs_iconst (pc := 82) C dX3_readJoint_82 (by decide) ?_
            refine zs_icmp_ge (tgt := 90) (pc := 83) C dX3_readJoint_83 (by decide) (fun h83 => ?_) (fun h83 => ?_)
            · skip
              refine zs_iconst (pc := 90) C dX3_readJoint_90 (by decide) ?_
              refine zs_putz (r := 413) (pc := 91) C dX3_readJoint_91 w_X3_175 f_4_13 rfl (r_413 0) (by omega) (by omega) ?_
              refine zs_aload_n (pc := 94) C dX3_readJoint_94 rfl ?_
              refine zs_iload_n (pc := 95) C dX3_readJoint_95 rfl ?_
              refine zVv1 (pc := 96) C dX3_readJoint_96 v_X3_200 (c_X3_push hX (by first | omega | (simp only [zuI_1, zuI_2, zuJ_1, zuJ_2, zuJ_3, zuP_1, zuP_2, zuP_3, zuC_1, zuC_2, reduceIte, Nat.reduceEqDiff, false_and, and_false, true_and, and_true, and_self, or_true, true_or, or_false, false_or]; omega)) (by first | omega | (simp only [zuI_1, zuI_2, zuJ_1, zuJ_2, zuJ_3, zuP_1, zuP_2, zuP_3, zuC_1, zuC_2, reduceIte, Nat.reduceEqDiff, false_and, and_false, true_and, and_true, and_self, or_true, true_or, or_false, false_or]; omega)) (by first | omega | (simp only [zuI_1, zuI_2, zuJ_1, zuJ_2, zuJ_3, zuP_1, zuP_2, zuP_3, zuC_1, zuC_2, reduceIte, Nat.reduceEqDiff, false_and, and_false, true_and, and_true, and_self, or_true, true_or, or_false, false_or]; omega))) (by decide) (by decide) ⟨Nat.zero_le _, Nat.zero_le _⟩ (Nat.le_of_ble_eq_true rfl) (fun G96 hp96 => ?_)
              obtain ⟨hz96, hq96⟩ := hp96
              try simp only [zuI_1, zuI_2, zuJ_1, zuJ_2, zuJ_3, zuP_1, zuP_2, zuP_3, zuC_1, zuC_2, reduceIte, Nat.reduceEqDiff, false_and, and_false, true_and, and_true, and_self, or_true, true_or, or_false, false_or] at hq96
              have tr96_704 := zsm_at hz96 704 (Γ.2.1 w 0) 0 (by decide)
              try simp only [zuI_1, zuI_2, zuJ_1, zuJ_2, zuJ_3, zuP_1, zuP_2, zuP_3, zuC_1, zuC_2, reduceIte, Nat.reduceEqDiff, false_and, and_false, true_and, and_true, and_self, or_true, true_or, or_false, false_or] at tr96_704
              exact zs_vret (pc := 99) C hr hlk dX3_readJoint_99 ⟨by repeat (first | exact zsm_rf | assumption | refine zsm_C (by decide) ?_ | refine zsm_I (by decide) ?_ | refine zsm_J ?_ | refine zsm_c (by assumption) (by decide) ?_), by first | omega | (simp only [zuI_1, zuI_2, zuJ_1, zuJ_2, zuJ_3, zuP_1, zuP_2, zuP_3, zuC_1, zuC_2, reduceIte, Nat.reduceEqDiff, false_and, and_false, true_and, and_true, and_self, or_true, true_or, or_false, false_or]; omega)⟩
            · skip
              refine zs_iconst (pc := 86) C dX3_readJoint_86 (by decide) ?_
              refine zs_goto (tgt := 91) (pc := 87) C dX3_readJoint_87 (by decide) ?_
              refine zs_putz (r := 413) (pc := 91) C dX3_readJoint_91 w_X3_175 f_4_13 rfl (r_413 0) (by omega) (by omega) ?_
              refine zs_aload_n (pc := 94) C dX3_readJoint_94 rfl ?_
              refine zs_iload_n (pc := 95) C dX3_readJoint_95 rfl ?_
              refine zVv1 (pc := 96) C dX3_readJoint_96 v_X3_200 (c_X3_push hX (by first | omega | (simp only [zuI_1, zuI_2, zuJ_1, zuJ_2, zuJ_3, zuP_1, zuP_2, zuP_3, zuC_1, zuC_2, reduceIte, Nat.reduceEqDiff, false_and, and_false, true_and, and_true, and_self, or_true, true_or, or_false, false_or]; omega)) (by first | omega | (simp only [zuI_1, zuI_2, zuJ_1, zuJ_2, zuJ_3, zuP_1, zuP_2, zuP_3, zuC_1, zuC_2, reduceIte, Nat.reduceEqDiff, false_and, and_false, true_and, and_true, and_self, or_true, true_or, or_false, false_or]; omega)) (by first | omega | (simp only [zuI_1, zuI_2, zuJ_1, zuJ_2, zuJ_3, zuP_1, zuP_2, zuP_3, zuC_1, zuC_2, reduceIte, Nat.reduceEqDiff, false_and, and_false, true_and, and_true, and_self, or_true, true_or, or_false, false_or]; omega))) (by decide) (by decide) ⟨Nat.zero_le _, Nat.zero_le _⟩ (Nat.le_of_ble_eq_true rfl) (fun G96 hp96 => ?_)
              obtain ⟨hz96, hq96⟩ := hp96
              try simp only [zuI_1, zuI_2, zuJ_1, zuJ_2, zuJ_3, zuP_1, zuP_2, zuP_3, zuC_1, zuC_2, reduceIte, Nat.reduceEqDiff, false_and, and_false, true_and, and_true, and_self, or_true, true_or, or_false, false_or] at hq96
              have tr96_704 := zsm_at hz96 704 (Γ.2.1 w 0) 0 (by decide)
              try simp only [zuI_1, zuI_2, zuJ_1, zuJ_2, zuJ_3, zuP_1, zuP_2, zuP_3, zuC_1, zuC_2, reduceIte, Nat.reduceEqDiff, false_and, and_false, true_and, and_true, and_self, or_true, true_or, or_false, false_or] at tr96_704
              exact zs_vret (pc := 99) C hr hlk dX3_readJoint_99 ⟨by repeat (first | exact zsm_rf | assumption | refine zsm_C (by decide) ?_ | refine zsm_I (by decide) ?_ | refine zsm_J ?_ | refine zsm_c (by assumption) (by decide) ?_), by first | omega | (simp only [zuI_1, zuI_2, zuJ_1, zuJ_2, zuJ_3, zuP_1, zuP_2, zuP_3, zuC_1, zuC_2, reduceIte, Nat.reduceEqDiff, false_and, and_false, true_and, and_true, and_self, or_true, true_or, or_false, false_or]; omega)⟩
        · skip
          refine zs_binds (pc := 41) C dX3_readJoint_41 q_X3_220 ?_
          refine zs_aload_n (pc := 44) C dX3_readJoint_44 rfl ?_
          refine zs_getf (pc := 45) C dX3_readJoint_45 w_X3_27 f_4_9 (by decide) ?_
          refine zs_aload_n (pc := 48) C dX3_readJoint_48 rfl ?_
          refine zs_geti (r := 410) (pc := 49) C dX3_readJoint_49 w_X3_165 f_4_10 rfl (r_410 0) (fun v49 e49 l49 u49 => ?_)
          refine zs_iconst (pc := 52) C dX3_readJoint_52 (by decide) ?_
          first | refine zs_isub (pc := 53) C dX3_readJoint_53 (by omega) ?_ | refine zs_isubF (pc := 53) C dX3_readJoint_53 (fun z53 hz531 hz532 => ?_)
          refine zs_iald (r := 2025) (pc := 54) C dX3_readJoint_54 a_25 (by decide) (by omega) rfl (r_2025 _) (fun v54 e54 l54 u54 => ?_)
          refine zs_xald (pc := 55) C 1 dX3_readJoint_55 (by decide) rfl (by have := hX.1; have := hX.2.1; omega) (fun v55 e55 l55 u55 => ?_)
          refine zs_iconst (pc := 56) C dX3_readJoint_56 (by decide) ?_
          refine zs_icmp_ne (tgt := 68) (pc := 57) C dX3_readJoint_57 (by decide) (fun h57 => ?_) (fun h57 => ?_)
          · skip
            refine zs_aload_n (pc := 68) C dX3_readJoint_68 rfl ?_
            refine zVi0 (pc := 69) C dX3_readJoint_69 v_X3_197 (c_X3_countKnot hX (by omega) (by omega)) (by decide) (by decide) ⟨Nat.zero_le _, Nat.zero_le _⟩ (Nat.le_of_ble_eq_true rfl) (fun x69 G69 l69 u69 hp69 => ?_)
            obtain ⟨hz69, hq69⟩ := hp69
            have tr69_704 := zsm_at hz69 704 (Γ.2.1 w 0) 0 (by decide)
            try simp only [zuI_1, zuI_2, zuJ_1, zuJ_2, zuJ_3, zuP_1, zuP_2, zuP_3, zuC_1, zuC_2, reduceIte, Nat.reduceEqDiff, false_and, and_false, true_and, and_true, and_self, or_true, true_or, or_false, false_or] at tr69_704
            refine zs_if_eq (tgt := 99) (pc := 72) C dX3_readJoint_72 (by decide) (fun h72 => ?_) (fun h72 => ?_)
            · skip
              exact zs_vret (pc := 99) C hr hlk dX3_readJoint_99 ⟨by repeat (first | exact zsm_rf | assumption | refine zsm_C (by decide) ?_ | refine zsm_I (by decide) ?_ | refine zsm_J ?_ | refine zsm_c (by assumption) (by decide) ?_), by first | omega | (simp only [zuI_1, zuI_2, zuJ_1, zuJ_2, zuJ_3, zuP_1, zuP_2, zuP_3, zuC_1, zuC_2, reduceIte, Nat.reduceEqDiff, false_and, and_false, true_and, and_true, and_self, or_true, true_or, or_false, false_or]; omega)⟩
            · skip
              refine zs_aload_n (pc := 75) C dX3_readJoint_75 rfl ?_
              refine zs_iconst (pc := 76) C dX3_readJoint_76 (by decide) ?_
              refine zs_putz (r := 412) (pc := 77) C dX3_readJoint_77 w_X3_171 f_4_12 rfl (r_412 0) (by omega) (by omega) ?_
              refine zs_aload_n (pc := 80) C dX3_readJoint_80 rfl ?_
              refine zs_iload_n (pc := 81) C dX3_readJoint_81 rfl ?_
              refine zs_iconst (pc := 82) C dX3_readJoint_82 (by decide) ?_
              refine zs_icmp_ge (tgt := 90) (pc := 83) C dX3_readJoint_83 (by decide) (fun h83 => ?_) (fun h83 => ?_)
              · skip
                refine zs_iconst (pc := 90) C dX3_readJoint_90 (by decide) ?_
                refine zs_putz (r := 413) (pc := 91) C dX3_readJoint_91 w_X3_175 f_4_13 rfl (r_413 0) (by omega) (by omega) ?_
                refine zs_aload_n (pc := 94) C dX3_readJoint_94 rfl ?_
                refine zs_iload_n (pc := 95) C dX3_readJoint_95 rfl ?_
                refine zVv1 (pc := 96) C dX3_readJoint_96 v_X3_200 (c_X3_push hX (by first | omega | (simp only [zuI_1, zuI_2, zuJ_1, zuJ_2, zuJ_3, zuP_1, zuP_2, zuP_3, zuC_1, zuC_2, reduceIte, Nat.reduceEqDiff, false_and, and_false, true_and, and_true, and_self, or_true, true_or, or_false, false_or]; omega)) (by first | omega | (simp only [zuI_1, zuI_2, zuJ_1, zuJ_2, zuJ_3, zuP_1, zuP_2, zuP_3, zuC_1, zuC_2, reduceIte, Nat.reduceEqDiff, false_and, and_false, true_and, and_true, and_self, or_true, true_or, or_false, false_or]; omega)) (by first | omega | (simp only [zuI_1, zuI_2, zuJ_1, zuJ_2, zuJ_3, zuP_1, zuP_2, zuP_3, zuC_1, zuC_2, reduceIte, Nat.reduceEqDiff, false_and, and_false, true_and, and_true, and_self, or_true, true_or, or_false, false_or]; omega))) (by decide) (by decide) ⟨Nat.zero_le _, Nat.zero_le _⟩ (Nat.le_of_ble_eq_true rfl) (fun G96 hp96 => ?_)
                obtain ⟨hz96, hq96⟩ := hp96
                try simp only [zuI_1, zuI_2, zuJ_1, zuJ_2, zuJ_3, zuP_1, zuP_2, zuP_3, zuC_1, zuC_2, reduceIte, Nat.reduceEqDiff, false_and, and_false, true_and, and_true, and_self, or_true, true_or, or_false, false_or] at hq96
                have tr96_704 := zsm_at hz96 704 (Γ.2.1 w 0) 0 (by decide)
                try simp only [zuI_1, zuI_2, zuJ_1, zuJ_2, zuJ_3, zuP_1, zuP_2, zuP_3, zuC_1, zuC_2, reduceIte, Nat.reduceEqDiff, false_and, and_false, true_and, and_true, and_self, or_true, true_or, or_false, false_or] at tr96_704
                exact zs_vret (pc := 99) C hr hlk dX3_readJoint_99 ⟨by repeat (first | exact zsm_rf | assumption | refine zsm_C (by decide) ?_ | refine zsm_I (by decide) ?_ | refine zsm_J ?_ | refine zsm_c (by assumption) (by decide) ?_), by first | omega | (simp only [zuI_1, zuI_2, zuJ_1, zuJ_2, zuJ_3, zuP_1, zuP_2, zuP_3, zuC_1, zuC_2, reduceIte, Nat.reduceEqDiff, false_and, and_false, true_and, and_true, and_self, or_true, true_or, or_false, false_or]; omega)⟩
              · skip
                refine zs_iconst (pc := 86) C dX3_readJoint_86 (by decide) ?_
                refine zs_goto (tgt := 91) (pc := 87) C dX3_readJoint_87 (by decide) ?_
                refine zs_putz (r := 413) (pc := 91) C dX3_readJoint_91 w_X3_175 f_4_13 rfl (r_413 0) (by omega) (by omega) ?_
                refine zs_aload_n (pc := 94) C dX3_readJoint_94 rfl ?_
                refine zs_iload_n (pc := 95) C dX3_readJoint_95 rfl ?_
                refine zVv1 (pc := 96) C dX3_readJoint_96 v_X3_200 (c_X3_push hX (by first | omega | (simp only [zuI_1, zuI_2, zuJ_1, zuJ_2, zuJ_3, zuP_1, zuP_2, zuP_3, zuC_1, zuC_2, reduceIte, Nat.reduceEqDiff, false_and, and_false, true_and, and_true, and_self, or_true, true_or, or_false, false_or]; omega)) (by first | omega | (simp only [zuI_1, zuI_2, zuJ_1, zuJ_2, zuJ_3, zuP_1, zuP_2, zuP_3, zuC_1, zuC_2, reduceIte, Nat.reduceEqDiff, false_and, and_false, true_and, and_true, and_self, or_true, true_or, or_false, false_or]; omega)) (by first | omega | (simp only [zuI_1, zuI_2, zuJ_1, zuJ_2, zuJ_3, zuP_1, zuP_2, zuP_3, zuC_1, zuC_2, reduceIte, Nat.reduceEqDiff, false_and, and_false, true_and, and_true, and_self, or_true, true_or, or_false, false_or]; omega))) (by decide) (by decide) ⟨Nat.zero_le _, Nat.zero_le _⟩ (Nat.le_of_ble_eq_true rfl) (fun G96 hp96 => ?_)
                obtain ⟨hz96, hq96⟩ := hp96
                try simp only [zuI_1, zuI_2, zuJ_1, zuJ_2, zuJ_3, zuP_1, zuP_2, zuP_3, zuC_1, zuC_2, reduceIte, Nat.reduceEqDiff, false_and, and_false, true_and, and_true, and_self, or_true, true_or, or_false, false_or] at hq96
                have tr96_704 := zsm_at hz96 704 (Γ.2.1 w 0) 0 (by decide)
                try simp only [zuI_1, zuI_2, zuJ_1, zuJ_2, zuJ_3, zuP_1, zuP_2, zuP_3, zuC_1, zuC_2, reduceIte, Nat.reduceEqDiff, false_and, and_false, true_and, and_true, and_self, or_true, true_or, or_false, false_or] at tr96_704
                exact zs_vret (pc := 99) C hr hlk dX3_readJoint_99 ⟨by repeat (first | exact zsm_rf | assumption | refine zsm_C (by decide) ?_ | refine zsm_I (by decide) ?_ | refine zsm_J ?_ | refine zsm_c (by assumption) (by decide) ?_), by first | omega | (simp only [zuI_1, zuI_2, zuJ_1, zuJ_2, zuJ_3, zuP_1, zuP_2, zuP_3, zuC_1, zuC_2, reduceIte, Nat.reduceEqDiff, false_and, and_false, true_and, and_true, and_self, or_true, true_or, or_false, false_or]; omega)⟩
          · skip
            refine zs_aload_n (pc := 60) C dX3_readJoint_60 rfl ?_
            refine zs_iconst (pc := 61) C dX3_readJoint_61 (by decide) ?_
            refine zVv1 (pc := 62) C dX3_readJoint_62 v_X3_114 (c_X3_fail hX (by omega) (by omega)) (by decide) (by decide) ⟨Nat.zero_le _, Nat.zero_le _⟩ (Nat.le_of_ble_eq_true rfl) (fun G62 hp62 => ?_)
            obtain ⟨hz62, hq62⟩ := hp62
            have tr62_704 := zsm_at hz62 704 (Γ.2.1 w 0) 0 (by decide)
            try simp only [zuI_1, zuI_2, zuJ_1, zuJ_2, zuJ_3, zuP_1, zuP_2, zuP_3, zuC_1, zuC_2, reduceIte, Nat.reduceEqDiff, false_and, and_false, true_and, and_true, and_self, or_true, true_or, or_false, false_or] at tr62_704
            have tr62_402 := zsm_at hz62 402 w 0 (by decide)
            try simp only [zuI_1, zuI_2, zuJ_1, zuJ_2, zuJ_3, zuP_1, zuP_2, zuP_3, zuC_1, zuC_2, reduceIte, Nat.reduceEqDiff, false_and, and_false, true_and, and_true, and_self, or_true, true_or, or_false, false_or] at tr62_402
            refine zs_goto (tgt := 99) (pc := 65) C dX3_readJoint_65 (by decide) ?_
            exact zs_vret (pc := 99) C hr hlk dX3_readJoint_99 ⟨by repeat (first | exact zsm_rf | assumption | refine zsm_C (by decide) ?_ | refine zsm_I (by decide) ?_ | refine zsm_J ?_ | refine zsm_c (by assumption) (by decide) ?_), by first | omega | (simp only [zuI_1, zuI_2, zuJ_1, zuJ_2, zuJ_3, zuP_1, zuP_2, zuP_3, zuC_1, zuC_2, reduceIte, Nat.reduceEqDiff, false_and, and_false, true_and, and_true, and_self, or_true, true_or, or_false, false_or]; omega)⟩
  · skip
    refine zs_iconst (pc := 11) C dX3_readJoint_11 (by decide) ?_
    refine zs_goto (tgt := 16) (pc := 12) C dX3_readJoint_12 (by decide) ?_
    refine zs_istore_n (pc := 16) C dX3_readJoint_16 (by decide) ?_
    dsimp only [zset, zclr, znone]
    refine zs_aload_n (pc := 17) C dX3_readJoint_17 rfl ?_
    refine zs_iload_n (pc := 18) C dX3_readJoint_18 rfl ?_
    refine zs_if_eq (tgt := 26) (pc := 19) C dX3_readJoint_19 (by decide) (fun h19 => ?_) (fun h19 => ?_)
    · skip
      refine zs_iload_n (pc := 26) C dX3_readJoint_26 rfl ?_
      refine zVv1 (pc := 27) C dX3_readJoint_27 v_X3_188 (c_X3_release hX (by omega) (by omega)) (by decide) (by decide) ⟨Nat.zero_le _, Nat.zero_le _⟩ (Nat.le_of_ble_eq_true rfl) (fun G27 hp27 => ?_)
      obtain ⟨hz27, hq27⟩ := hp27
      have tr27_704 := zsm_at hz27 704 (Γ.2.1 w 0) 0 (by decide)
      try simp only [zuI_1, zuI_2, zuJ_1, zuJ_2, zuJ_3, zuP_1, zuP_2, zuP_3, zuC_1, zuC_2, reduceIte, Nat.reduceEqDiff, false_and, and_false, true_and, and_true, and_self, or_true, true_or, or_false, false_or] at tr27_704
      have tr27_402 := zsm_at hz27 402 w 0 (by decide)
      try simp only [zuI_1, zuI_2, zuJ_1, zuJ_2, zuJ_3, zuP_1, zuP_2, zuP_3, zuC_1, zuC_2, reduceIte, Nat.reduceEqDiff, false_and, and_false, true_and, and_true, and_self, or_true, true_or, or_false, false_or] at tr27_402
      have tr27_407 := zsm_at hz27 407 w 0 (by decide)
      try simp only [zuI_1, zuI_2, zuJ_1, zuJ_2, zuJ_3, zuP_1, zuP_2, zuP_3, zuC_1, zuC_2, reduceIte, Nat.reduceEqDiff, false_and, and_false, true_and, and_true, and_self, or_true, true_or, or_false, false_or] at tr27_407
      refine zs_iload_n (pc := 30) C dX3_readJoint_30 rfl ?_
      refine zs_if_eq (tgt := 68) (pc := 31) C dX3_readJoint_31 (by decide) (fun h31 => ?_) (fun h31 => ?_)
      · skip
        refine zs_aload_n (pc := 68) C dX3_readJoint_68 rfl ?_
        refine zVi0 (pc := 69) C dX3_readJoint_69 v_X3_197 (c_X3_countKnot hX (by omega) (by omega)) (by decide) (by decide) ⟨Nat.zero_le _, Nat.zero_le _⟩ (Nat.le_of_ble_eq_true rfl) (fun x69 G69 l69 u69 hp69 => ?_)
        obtain ⟨hz69, hq69⟩ := hp69
        have tr69_704 := zsm_at hz69 704 (Γ.2.1 w 0) 0 (by decide)
        try simp only [zuI_1, zuI_2, zuJ_1, zuJ_2, zuJ_3, zuP_1, zuP_2, zuP_3, zuC_1, zuC_2, reduceIte, Nat.reduceEqDiff, false_and, and_false, true_and, and_true, and_self, or_true, true_or, or_false, false_or] at tr69_704
        refine zs_if_eq (tgt := 99) (pc := 72) C dX3_readJoint_72 (by decide) (fun h72 => ?_) (fun h72 => ?_)
        · skip
          exact zs_vret (pc := 99) C hr hlk dX3_readJoint_99 ⟨by repeat (first | exact zsm_rf | assumption | refine zsm_C (by decide) ?_ | refine zsm_I (by decide) ?_ | refine zsm_J ?_ | refine zsm_c (by assumption) (by decide) ?_), by first | omega | (simp only [zuI_1, zuI_2, zuJ_1, zuJ_2, zuJ_3, zuP_1, zuP_2, zuP_3, zuC_1, zuC_2, reduceIte, Nat.reduceEqDiff, false_and, and_false, true_and, and_true, and_self, or_true, true_or, or_false, false_or]; omega)⟩
        · skip
          refine zs_aload_n (pc := 75) C dX3_readJoint_75 rfl ?_
          refine zs_iconst (pc := 76) C dX3_readJoint_76 (by decide) ?_
          refine zs_putz (r := 412) (pc := 77) C dX3_readJoint_77 w_X3_171 f_4_12 rfl (r_412 0) (by omega) (by omega) ?_
          refine zs_aload_n (pc := 80) C dX3_readJoint_80 rfl ?_
          refine zs_iload_n (pc := 81) C dX3_readJoint_81 rfl ?_
          refine zs_iconst (pc := 82) C dX3_readJoint_82 (by decide) ?_
          refine zs_icmp_ge (tgt := 90) (pc := 83) C dX3_readJoint_83 (by decide) (fun h83 => ?_) (fun h83 => ?_)
          · skip
            refine zs_iconst (pc := 90) C dX3_readJoint_90 (by decide) ?_
            refine zs_putz (r := 413) (pc := 91) C dX3_readJoint_91 w_X3_175 f_4_13 rfl (r_413 0) (by omega) (by omega) ?_
            refine zs_aload_n (pc := 94) C dX3_readJoint_94 rfl ?_
            refine zs_iload_n (pc := 95) C dX3_readJoint_95 rfl ?_
            refine zVv1 (pc := 96) C dX3_readJoint_96 v_X3_200 (c_X3_push hX (by first | omega | (simp only [zuI_1, zuI_2, zuJ_1, zuJ_2, zuJ_3, zuP_1, zuP_2, zuP_3, zuC_1, zuC_2, reduceIte, Nat.reduceEqDiff, false_and, and_false, true_and, and_true, and_self, or_true, true_or, or_false, false_or]; omega)) (by first | omega | (simp only [zuI_1, zuI_2, zuJ_1, zuJ_2, zuJ_3, zuP_1, zuP_2, zuP_3, zuC_1, zuC_2, reduceIte, Nat.reduceEqDiff, false_and, and_false, true_and, and_true, and_self, or_true, true_or, or_false, false_or]; omega)) (by first | omega | (simp only [zuI_1, zuI_2, zuJ_1, zuJ_2, zuJ_3, zuP_1, zuP_2, zuP_3, zuC_1, zuC_2, reduceIte, Nat.reduceEqDiff, false_and, and_false, true_and, and_true, and_self, or_true, true_or, or_false, false_or]; omega))) (by decide) (by decide) ⟨Nat.zero_le _, Nat.zero_le _⟩ (Nat.le_of_ble_eq_true rfl) (fun G96 hp96 => ?_)
            obtain ⟨hz96, hq96⟩ := hp96
            try simp only [zuI_1, zuI_2, zuJ_1, zuJ_2, zuJ_3, zuP_1, zuP_2, zuP_3, zuC_1, zuC_2, reduceIte, Nat.reduceEqDiff, false_and, and_false, true_and, and_true, and_self, or_true, true_or, or_false, false_or] at hq96
            have tr96_704 := zsm_at hz96 704 (Γ.2.1 w 0) 0 (by decide)
            try simp only [zuI_1, zuI_2, zuJ_1, zuJ_2, zuJ_3, zuP_1, zuP_2, zuP_3, zuC_1, zuC_2, reduceIte, Nat.reduceEqDiff, false_and, and_false, true_and, and_true, and_self, or_true, true_or, or_false, false_or] at tr96_704
            exact zs_vret (pc := 99) C hr hlk dX3_readJoint_99 ⟨by repeat (first | exact zsm_rf | assumption | refine zsm_C (by decide) ?_ | refine zsm_I (by decide) ?_ | refine zsm_J ?_ | refine zsm_c (by assumption) (by decide) ?_), by first | omega | (simp only [zuI_1, zuI_2, zuJ_1, zuJ_2, zuJ_3, zuP_1, zuP_2, zuP_3, zuC_1, zuC_2, reduceIte, Nat.reduceEqDiff, false_and, and_false, true_and, and_true, and_self, or_true, true_or, or_false, false_or]; omega)⟩
          · skip
            refine zs_iconst (pc := 86) C dX3_readJoint_86 (by decide) ?_
            refine zs_goto (tgt := 91) (pc := 87) C dX3_readJoint_87 (by decide) ?_
            refine zs_putz (r := 413) (pc := 91) C dX3_readJoint_91 w_X3_175 f_4_13 rfl (r_413 0) (by omega) (by omega) ?_
            refine zs_aload_n (pc := 94) C dX3_readJoint_94 rfl ?_
            refine zs_iload_n (pc := 95) C dX3_readJoint_95 rfl ?_
            refine zVv1 (pc := 96) C dX3_readJoint_96 v_X3_200 (c_X3_push hX (by first | omega | (simp only [zuI_1, zuI_2, zuJ_1, zuJ_2, zuJ_3, zuP_1, zuP_2, zuP_3, zuC_1, zuC_2, reduceIte, Nat.reduceEqDiff, false_and, and_false, true_and, and_true, and_self, or_true, true_or, or_false, false_or]; omega)) (by first | omega | (simp only [zuI_1, zuI_2, zuJ_1, zuJ_2, zuJ_3, zuP_1, zuP_2, zuP_3, zuC_1, zuC_2, reduceIte, Nat.reduceEqDiff, false_and, and_false, true_and, and_true, and_self, or_true, true_or, or_false, false_or]; omega)) (by first | omega | (simp only [zuI_1, zuI_2, zuJ_1, zuJ_2, zuJ_3, zuP_1, zuP_2, zuP_3, zuC_1, zuC_2, reduceIte, Nat.reduceEqDiff, false_and, and_false, true_and, and_true, and_self, or_true, true_or, or_false, false_or]; omega))) (by decide) (by decide) ⟨Nat.zero_le _, Nat.zero_le _⟩ (Nat.le_of_ble_eq_true rfl) (fun G96 hp96 => ?_)
            obtain ⟨hz96, hq96⟩ := hp96
            try simp only [zuI_1, zuI_2, zuJ_1, zuJ_2, zuJ_3, zuP_1, zuP_2, zuP_3, zuC_1, zuC_2, reduceIte, Nat.reduceEqDiff, false_and, and_false, true_and, and_true, and_self, or_true, true_or, or_false, false_or] at hq96
            have tr96_704 := zsm_at hz96 704 (Γ.2.1 w 0) 0 (by decide)
            try simp only [zuI_1, zuI_2, zuJ_1, zuJ_2, zuJ_3, zuP_1, zuP_2, zuP_3, zuC_1, zuC_2, reduceIte, Nat.reduceEqDiff, false_and, and_false, true_and, and_true, and_self, or_true, true_or, or_false, false_or] at tr96_704
            exact zs_vret (pc := 99) C hr hlk dX3_readJoint_99 ⟨by repeat (first | exact zsm_rf | assumption | refine zsm_C (by decide) ?_ | refine zsm_I (by decide) ?_ | refine zsm_J ?_ | refine zsm_c (by assumption) (by decide) ?_), by first | omega | (simp only [zuI_1, zuI_2, zuJ_1, zuJ_2, zuJ_3, zuP_1, zuP_2, zuP_3, zuC_1, zuC_2, reduceIte, Nat.reduceEqDiff, false_and, and_false, true_and, and_true, and_self, or_true, true_or, or_false, false_or]; omega)⟩
      · skip
        refine zs_aload_n (pc := 34) C dX3_readJoint_34 rfl ?_
        refine zs_geti (r := 410) (pc := 35) C dX3_readJoint_35 w_X3_165 f_4_10 rfl (r_410 0) (fun v35 e35 l35 u35 => ?_)
        refine zs_if_le (tgt := 68) (pc := 38) C dX3_readJoint_38 (by decide) (fun h38 => ?_) (fun h38 => ?_)
        · skip
          refine zs_aload_n (pc := 68) C dX3_readJoint_68 rfl ?_
          refine zVi0 (pc := 69) C dX3_readJoint_69 v_X3_197 (c_X3_countKnot hX (by omega) (by omega)) (by decide) (by decide) ⟨Nat.zero_le _, Nat.zero_le _⟩ (Nat.le_of_ble_eq_true rfl) (fun x69 G69 l69 u69 hp69 => ?_)
          obtain ⟨hz69, hq69⟩ := hp69
          have tr69_704 := zsm_at hz69 704 (Γ.2.1 w 0) 0 (by decide)
          try simp only [zuI_1, zuI_2, zuJ_1, zuJ_2, zuJ_3, zuP_1, zuP_2, zuP_3, zuC_1, zuC_2, reduceIte, Nat.reduceEqDiff, false_and, and_false, true_and, and_true, and_self, or_true, true_or, or_false, false_or] at tr69_704
          refine zs_if_eq (tgt := 99) (pc := 72) C dX3_readJoint_72 (by decide) (fun h72 => ?_) (fun h72 => ?_)
          · skip
            exact zs_vret (pc := 99) C hr hlk dX3_readJoint_99 ⟨by repeat (first | exact zsm_rf | assumption | refine zsm_C (by decide) ?_ | refine zsm_I (by decide) ?_ | refine zsm_J ?_ | refine zsm_c (by assumption) (by decide) ?_), by first | omega | (simp only [zuI_1, zuI_2, zuJ_1, zuJ_2, zuJ_3, zuP_1, zuP_2, zuP_3, zuC_1, zuC_2, reduceIte, Nat.reduceEqDiff, false_and, and_false, true_and, and_true, and_self, or_true, true_or, or_false, false_or]; omega)⟩
          · skip
            refine zs_aload_n (pc := 75) C dX3_readJoint_75 rfl ?_
            refine zs_iconst (pc := 76) C dX3_readJoint_76 (by decide) ?_
            refine zs_putz (r := 412) (pc := 77) C dX3_readJoint_77 w_X3_171 f_4_12 rfl (r_412 0) (by omega) (by omega) ?_
            refine zs_aload_n (pc := 80) C dX3_readJoint_80 rfl ?_
            refine zs_iload_n (pc := 81) C dX3_readJoint_81 rfl ?_
            refine zs_iconst (pc := 82) C dX3_readJoint_82 (by decide) ?_
            refine zs_icmp_ge (tgt := 90) (pc := 83) C dX3_readJoint_83 (by decide) (fun h83 => ?_) (fun h83 => ?_)
            · skip
              refine zs_iconst (pc := 90) C dX3_readJoint_90 (by decide) ?_
              refine zs_putz (r := 413) (pc := 91) C dX3_readJoint_91 w_X3_175 f_4_13 rfl (r_413 0) (by omega) (by omega) ?_
              refine zs_aload_n (pc := 94) C dX3_readJoint_94 rfl ?_
              refine zs_iload_n (pc := 95) C dX3_readJoint_95 rfl ?_
              refine zVv1 (pc := 96) C dX3_readJoint_96 v_X3_200 (c_X3_push hX (by first | omega | (simp only [zuI_1, zuI_2, zuJ_1, zuJ_2, zuJ_3, zuP_1, zuP_2, zuP_3, zuC_1, zuC_2, reduceIte, Nat.reduceEqDiff, false_and, and_false, true_and, and_true, and_self, or_true, true_or, or_false, false_or]; omega)) (by first | omega | (simp only [zuI_1, zuI_2, zuJ_1, zuJ_2, zuJ_3, zuP_1, zuP_2, zuP_3, zuC_1, zuC_2, reduceIte, Nat.reduceEqDiff, false_and, and_false, true_and, and_true, and_self, or_true, true_or, or_false, false_or]; omega)) (by first | omega | (simp only [zuI_1, zuI_2, zuJ_1, zuJ_2, zuJ_3, zuP_1, zuP_2, zuP_3, zuC_1, zuC_2, reduceIte, Nat.reduceEqDiff, false_and, and_false, true_and, and_true, and_self, or_true, true_or, or_false, false_or]; omega))) (by decide) (by decide) ⟨Nat.zero_le _, Nat.zero_le _⟩ (Nat.le_of_ble_eq_true rfl) (fun G96 hp96 => ?_)
              obtain ⟨hz96, hq96⟩ := hp96
              try simp only [zuI_1, zuI_2, zuJ_1, zuJ_2, zuJ_3, zuP_1, zuP_2, zuP_3, zuC_1, zuC_2, reduceIte, Nat.reduceEqDiff, false_and, and_false, true_and, and_true, and_self, or_true, true_or, or_false, false_or] at hq96
              have tr96_704 := zsm_at hz96 704 (Γ.2.1 w 0) 0 (by decide)
              try simp only [zuI_1, zuI_2, zuJ_1, zuJ_2, zuJ_3, zuP_1, zuP_2, zuP_3, zuC_1, zuC_2, reduceIte, Nat.reduceEqDiff, false_and, and_false, true_and, and_true, and_self, or_true, true_or, or_false, false_or] at tr96_704
              exact zs_vret (pc := 99) C hr hlk dX3_readJoint_99 ⟨by repeat (first | exact zsm_rf | assumption | refine zsm_C (by decide) ?_ | refine zsm_I (by decide) ?_ | refine zsm_J ?_ | refine zsm_c (by assumption) (by decide) ?_), by first | omega | (simp only [zuI_1, zuI_2, zuJ_1, zuJ_2, zuJ_3, zuP_1, zuP_2, zuP_3, zuC_1, zuC_2, reduceIte, Nat.reduceEqDiff, false_and, and_false, true_and, and_true, and_self, or_true, true_or, or_false, false_or]; omega)⟩
            · skip
              refine zs_iconst (pc := 86) C dX3_readJoint_86 (by decide) ?_
              refine zs_goto (tgt := 91) (pc := 87) C dX3_readJoint_87 (by decide) ?_
              refine zs_putz (r := 413) (pc := 91) C dX3_readJoint_91 w_X3_175 f_4_13 rfl (r_413 0) (by omega) (by omega) ?_
              refine zs_aload_n (pc := 94) C dX3_readJoint_94 rfl ?_
              refine zs_iload_n (pc := 95) C dX3_readJoint_95 rfl ?_
              refine zVv1 (pc := 96) C dX3_readJoint_96 v_X3_200 (c_X3_push hX (by first | omega | (simp only [zuI_1, zuI_2, zuJ_1, zuJ_2, zuJ_3, zuP_1, zuP_2, zuP_3, zuC_1, zuC_2, reduceIte, Nat.reduceEqDiff, false_and, and_false, true_and, and_true, and_self, or_true, true_or, or_false, false_or]; omega)) (by first | omega | (simp only [zuI_1, zuI_2, zuJ_1, zuJ_2, zuJ_3, zuP_1, zuP_2, zuP_3, zuC_1, zuC_2, reduceIte, Nat.reduceEqDiff, false_and, and_false, true_and, and_true, and_self, or_true, true_or, or_false, false_or]; omega)) (by first | omega | (simp only [zuI_1, zuI_2, zuJ_1, zuJ_2, zuJ_3, zuP_1, zuP_2, zuP_3, zuC_1, zuC_2, reduceIte, Nat.reduceEqDiff, false_and, and_false, true_and, and_true, and_self, or_true, true_or, or_false, false_or]; omega))) (by decide) (by decide) ⟨Nat.zero_le _, Nat.zero_le _⟩ (Nat.le_of_ble_eq_true rfl) (fun G96 hp96 => ?_)
              obtain ⟨hz96, hq96⟩ := hp96
              try simp only [zuI_1, zuI_2, zuJ_1, zuJ_2, zuJ_3, zuP_1, zuP_2, zuP_3, zuC_1, zuC_2, reduceIte, Nat.reduceEqDiff, false_and, and_false, true_and, and_true, and_self, or_true, true_or, or_false, false_or] at hq96
              have tr96_704 := zsm_at hz96 704 (Γ.2.1 w 0) 0 (by decide)
              try simp only [zuI_1, zuI_2, zuJ_1, zuJ_2, zuJ_3, zuP_1, zuP_2, zuP_3, zuC_1, zuC_2, reduceIte, Nat.reduceEqDiff, false_and, and_false, true_and, and_true, and_self, or_true, true_or, or_false, false_or] at tr96_704
              exact zs_vret (pc := 99) C hr hlk dX3_readJoint_99 ⟨by repeat (first | exact zsm_rf | assumption | refine zsm_C (by decide) ?_ | refine zsm_I (by decide) ?_ | refine zsm_J ?_ | refine zsm_c (by assumption) (by decide) ?_), by first | omega | (simp only [zuI_1, zuI_2, zuJ_1, zuJ_2, zuJ_3, zuP_1, zuP_2, zuP_3, zuC_1, zuC_2, reduceIte, Nat.reduceEqDiff, false_and, and_false, true_and, and_true, and_self, or_true, true_or, or_false, false_or]; omega)⟩
        · skip
          refine zs_binds (pc := 41) C dX3_readJoint_41 q_X3_220 ?_
          refine zs_aload_n (pc := 44) C dX3_readJoint_44 rfl ?_
          refine zs_getf (pc := 45) C dX3_readJoint_45 w_X3_27 f_4_9 (by decide) ?_
          refine zs_aload_n (pc := 48) C dX3_readJoint_48 rfl ?_
          refine zs_geti (r := 410) (pc := 49) C dX3_readJoint_49 w_X3_165 f_4_10 rfl (r_410 0) (fun v49 e49 l49 u49 => ?_)
          refine zs_iconst (pc := 52) C dX3_readJoint_52 (by decide) ?_
          first | refine zs_isub (pc := 53) C dX3_readJoint_53 (by omega) ?_ | refine zs_isubF (pc := 53) C dX3_readJoint_53 (fun z53 hz531 hz532 => ?_)
          refine zs_iald (r := 2025) (pc := 54) C dX3_readJoint_54 a_25 (by decide) (by omega) rfl (r_2025 _) (fun v54 e54 l54 u54 => ?_)
          refine zs_xald (pc := 55) C 1 dX3_readJoint_55 (by decide) rfl (by have := hX.1; have := hX.2.1; omega) (fun v55 e55 l55 u55 => ?_)
          refine zs_iconst (pc := 56) C dX3_readJoint_56 (by decide) ?_
          refine zs_icmp_ne (tgt := 68) (pc := 57) C dX3_readJoint_57 (by decide) (fun h57 => ?_) (fun h57 => ?_)
          · skip
            refine zs_aload_n (pc := 68) C dX3_readJoint_68 rfl ?_
            refine zVi0 (pc := 69) C dX3_readJoint_69 v_X3_197 (c_X3_countKnot hX (by omega) (by omega)) (by decide) (by decide) ⟨Nat.zero_le _, Nat.zero_le _⟩ (Nat.le_of_ble_eq_true rfl) (fun x69 G69 l69 u69 hp69 => ?_)
            obtain ⟨hz69, hq69⟩ := hp69
            have tr69_704 := zsm_at hz69 704 (Γ.2.1 w 0) 0 (by decide)
            try simp only [zuI_1, zuI_2, zuJ_1, zuJ_2, zuJ_3, zuP_1, zuP_2, zuP_3, zuC_1, zuC_2, reduceIte, Nat.reduceEqDiff, false_and, and_false, true_and, and_true, and_self, or_true, true_or, or_false, false_or] at tr69_704
            refine zs_if_eq (tgt := 99) (pc := 72) C dX3_readJoint_72 (by decide) (fun h72 => ?_) (fun h72 => ?_)
            · skip
              exact zs_vret (pc := 99) C hr hlk dX3_readJoint_99 ⟨by repeat (first | exact zsm_rf | assumption | refine zsm_C (by decide) ?_ | refine zsm_I (by decide) ?_ | refine zsm_J ?_ | refine zsm_c (by assumption) (by decide) ?_), by first | omega | (simp only [zuI_1, zuI_2, zuJ_1, zuJ_2, zuJ_3, zuP_1, zuP_2, zuP_3, zuC_1, zuC_2, reduceIte, Nat.reduceEqDiff, false_and, and_false, true_and, and_true, and_self, or_true, true_or, or_false, false_or]; omega)⟩
            · skip
              refine zs_aload_n (pc := 75) C dX3_readJoint_75 rfl ?_
              refine zs_iconst (pc := 76) C dX3_readJoint_76 (by decide) ?_
              refine zs_putz (r := 412) (pc := 77) C dX3_readJoint_77 w_X3_171 f_4_12 rfl (r_412 0) (by omega) (by omega) ?_
              refine zs_aload_n (pc := 80) C dX3_readJoint_80 rfl ?_
              refine zs_iload_n (pc := 81) C dX3_readJoint_81 rfl ?_
              refine zs_iconst (pc := 82) C dX3_readJoint_82 (by decide) ?_
              refine zs_icmp_ge (tgt := 90) (pc := 83) C dX3_readJoint_83 (by decide) (fun h83 => ?_) (fun h83 => ?_)
              · skip
                refine zs_iconst (pc := 90) C dX3_readJoint_90 (by decide) ?_
                refine zs_putz (r := 413) (pc := 91) C dX3_readJoint_91 w_X3_175 f_4_13 rfl (r_413 0) (by omega) (by omega) ?_
                refine zs_aload_n (pc := 94) C dX3_readJoint_94 rfl ?_
                refine zs_iload_n (pc := 95) C dX3_readJoint_95 rfl ?_
                refine zVv1 (pc := 96) C dX3_readJoint_96 v_X3_200 (c_X3_push hX (by first | omega | (simp only [zuI_1, zuI_2, zuJ_1, zuJ_2, zuJ_3, zuP_1, zuP_2, zuP_3, zuC_1, zuC_2, reduceIte, Nat.reduceEqDiff, false_and, and_false, true_and, and_true, and_self, or_true, true_or, or_false, false_or]; omega)) (by first | omega | (simp only [zuI_1, zuI_2, zuJ_1, zuJ_2, zuJ_3, zuP_1, zuP_2, zuP_3, zuC_1, zuC_2, reduceIte, Nat.reduceEqDiff, false_and, and_false, true_and, and_true, and_self, or_true, true_or, or_false, false_or]; omega)) (by first | omega | (simp only [zuI_1, zuI_2, zuJ_1, zuJ_2, zuJ_3, zuP_1, zuP_2, zuP_3, zuC_1, zuC_2, reduceIte, Nat.reduceEqDiff, false_and, and_false, true_and, and_true, and_self, or_true, true_or, or_false, false_or]; omega))) (by decide) (by decide) ⟨Nat.zero_le _, Nat.zero_le _⟩ (Nat.le_of_ble_eq_true rfl) (fun G96 hp96 => ?_)
                obtain ⟨hz96, hq96⟩ := hp96
                try simp only [zuI_1, zuI_2, zuJ_1, zuJ_2, zuJ_3, zuP_1, zuP_2, zuP_3, zuC_1, zuC_2, reduceIte, Nat.reduceEqDiff, false_and, and_false, true_and, and_true, and_self, or_true, true_or, or_false, false_or] at hq96
                have tr96_704 := zsm_at hz96 704 (Γ.2.1 w 0) 0 (by decide)
                try simp only [zuI_1, zuI_2, zuJ_1, zuJ_2, zuJ_3, zuP_1, zuP_2, zuP_3, zuC_1, zuC_2, reduceIte, Nat.reduceEqDiff, false_and, and_false, true_and, and_true, and_self, or_true, true_or, or_false, false_or] at tr96_704
                exact zs_vret (pc := 99) C hr hlk dX3_readJoint_99 ⟨by repeat (first | exact zsm_rf | assumption | refine zsm_C (by decide) ?_ | refine zsm_I (by decide) ?_ | refine zsm_J ?_ | refine zsm_c (by assumption) (by decide) ?_), by first | omega | (simp only [zuI_1, zuI_2, zuJ_1, zuJ_2, zuJ_3, zuP_1, zuP_2, zuP_3, zuC_1, zuC_2, reduceIte, Nat.reduceEqDiff, false_and, and_false, true_and, and_true, and_self, or_true, true_or, or_false, false_or]; omega)⟩
              · skip
                refine zs_iconst (pc := 86) C dX3_readJoint_86 (by decide) ?_
                refine zs_goto (tgt := 91) (pc := 87) C dX3_readJoint_87 (by decide) ?_
                refine zs_putz (r := 413) (pc := 91) C dX3_readJoint_91 w_X3_175 f_4_13 rfl (r_413 0) (by omega) (by omega) ?_
                refine zs_aload_n (pc := 94) C dX3_readJoint_94 rfl ?_
                refine zs_iload_n (pc := 95) C dX3_readJoint_95 rfl ?_
                refine zVv1 (pc := 96) C dX3_readJoint_96 v_X3_200 (c_X3_push hX (by first | omega | (simp only [zuI_1, zuI_2, zuJ_1, zuJ_2, zuJ_3, zuP_1, zuP_2, zuP_3, zuC_1, zuC_2, reduceIte, Nat.reduceEqDiff, false_and, and_false, true_and, and_true, and_self, or_true, true_or, or_false, false_or]; omega)) (by first | omega | (simp only [zuI_1, zuI_2, zuJ_1, zuJ_2, zuJ_3, zuP_1, zuP_2, zuP_3, zuC_1, zuC_2, reduceIte, Nat.reduceEqDiff, false_and, and_false, true_and, and_true, and_self, or_true, true_or, or_false, false_or]; omega)) (by first | omega | (simp only [zuI_1, zuI_2, zuJ_1, zuJ_2, zuJ_3, zuP_1, zuP_2, zuP_3, zuC_1, zuC_2, reduceIte, Nat.reduceEqDiff, false_and, and_false, true_and, and_true, and_self, or_true, true_or, or_false, false_or]; omega))) (by decide) (by decide) ⟨Nat.zero_le _, Nat.zero_le _⟩ (Nat.le_of_ble_eq_true rfl) (fun G96 hp96 => ?_)
                obtain ⟨hz96, hq96⟩ := hp96
                try simp only [zuI_1, zuI_2, zuJ_1, zuJ_2, zuJ_3, zuP_1, zuP_2, zuP_3, zuC_1, zuC_2, reduceIte, Nat.reduceEqDiff, false_and, and_false, true_and, and_true, and_self, or_true, true_or, or_false, false_or] at hq96
                have tr96_704 := zsm_at hz96 704 (Γ.2.1 w 0) 0 (by decide)
                try simp only [zuI_1, zuI_2, zuJ_1, zuJ_2, zuJ_3, zuP_1, zuP_2, zuP_3, zuC_1, zuC_2, reduceIte, Nat.reduceEqDiff, false_and, and_false, true_and, and_true, and_self, or_true, true_or, or_false, false_or] at tr96_704
                exact zs_vret (pc := 99) C hr hlk dX3_readJoint_99 ⟨by repeat (first | exact zsm_rf | assumption | refine zsm_C (by decide) ?_ | refine zsm_I (by decide) ?_ | refine zsm_J ?_ | refine zsm_c (by assumption) (by decide) ?_), by first | omega | (simp only [zuI_1, zuI_2, zuJ_1, zuJ_2, zuJ_3, zuP_1, zuP_2, zuP_3, zuC_1, zuC_2, reduceIte, Nat.reduceEqDiff, false_and, and_false, true_and, and_true, and_self, or_true, true_or, or_false, false_or]; omega)⟩
          · skip
            refine zs_aload_n (pc := 60) C dX3_readJoint_60 rfl ?_
            refine zs_iconst (pc := 61) C dX3_readJoint_61 (by decide) ?_
            refine zVv1 (pc := 62) C dX3_readJoint_62 v_X3_114 (c_X3_fail hX (by omega) (by omega)) (by decide) (by decide) ⟨Nat.zero_le _, Nat.zero_le _⟩ (Nat.le_of_ble_eq_true rfl) (fun G62 hp62 => ?_)
            obtain ⟨hz62, hq62⟩ := hp62
            have tr62_704 := zsm_at hz62 704 (Γ.2.1 w 0) 0 (by decide)
            try simp only [zuI_1, zuI_2, zuJ_1, zuJ_2, zuJ_3, zuP_1, zuP_2, zuP_3, zuC_1, zuC_2, reduceIte, Nat.reduceEqDiff, false_and, and_false, true_and, and_true, and_self, or_true, true_or, or_false, false_or] at tr62_704
            have tr62_402 := zsm_at hz62 402 w 0 (by decide)
            try simp only [zuI_1, zuI_2, zuJ_1, zuJ_2, zuJ_3, zuP_1, zuP_2, zuP_3, zuC_1, zuC_2, reduceIte, Nat.reduceEqDiff, false_and, and_false, true_and, and_true, and_self, or_true, true_or, or_false, false_or] at tr62_402
            refine zs_goto (tgt := 99) (pc := 65) C dX3_readJoint_65 (by decide) ?_
            exact zs_vret (pc := 99) C hr hlk dX3_readJoint_99 ⟨by repeat (first | exact zsm_rf | assumption | refine zsm_C (by decide) ?_ | refine zsm_I (by decide) ?_ | refine zsm_J ?_ | refine zsm_c (by assumption) (by decide) ?_), by first | omega | (simp only [zuI_1, zuI_2, zuJ_1, zuJ_2, zuJ_3, zuP_1, zuP_2, zuP_3, zuC_1, zuC_2, reduceIte, Nat.reduceEqDiff, false_and, and_false, true_and, and_true, and_self, or_true, true_or, or_false, false_or]; omega)⟩
    · skip
      refine zs_iconst (pc := 22) C dX3_readJoint_22 (by decide) ?_
      refine zs_goto (tgt := 27) (pc := 23) C dX3_readJoint_23 (by decide) ?_
      refine zVv1 (pc := 27) C dX3_readJoint_27 v_X3_188 (c_X3_release hX (by omega) (by omega)) (by decide) (by decide) ⟨Nat.zero_le _, Nat.zero_le _⟩ (Nat.le_of_ble_eq_true rfl) (fun G27 hp27 => ?_)
      obtain ⟨hz27, hq27⟩ := hp27
      have tr27_704 := zsm_at hz27 704 (Γ.2.1 w 0) 0 (by decide)
      try simp only [zuI_1, zuI_2, zuJ_1, zuJ_2, zuJ_3, zuP_1, zuP_2, zuP_3, zuC_1, zuC_2, reduceIte, Nat.reduceEqDiff, false_and, and_false, true_and, and_true, and_self, or_true, true_or, or_false, false_or] at tr27_704
      have tr27_402 := zsm_at hz27 402 w 0 (by decide)
      try simp only [zuI_1, zuI_2, zuJ_1, zuJ_2, zuJ_3, zuP_1, zuP_2, zuP_3, zuC_1, zuC_2, reduceIte, Nat.reduceEqDiff, false_and, and_false, true_and, and_true, and_self, or_true, true_or, or_false, false_or] at tr27_402
      have tr27_407 := zsm_at hz27 407 w 0 (by decide)
      try simp only [zuI_1, zuI_2, zuJ_1, zuJ_2, zuJ_3, zuP_1, zuP_2, zuP_3, zuC_1, zuC_2, reduceIte, Nat.reduceEqDiff, false_and, and_false, true_and, and_true, and_self, or_true, true_or, or_false, false_or] at tr27_407
      refine zs_iload_n (pc := 30) C dX3_readJoint_30 rfl ?_
      refine zs_if_eq (tgt := 68) (pc := 31) C dX3_readJoint_31 (by decide) (fun h31 => ?_) (fun h31 => ?_)
      · skip
        refine zs_aload_n (pc := 68) C dX3_readJoint_68 rfl ?_
        refine zVi0 (pc := 69) C dX3_readJoint_69 v_X3_197 (c_X3_countKnot hX (by omega) (by omega)) (by decide) (by decide) ⟨Nat.zero_le _, Nat.zero_le _⟩ (Nat.le_of_ble_eq_true rfl) (fun x69 G69 l69 u69 hp69 => ?_)
        obtain ⟨hz69, hq69⟩ := hp69
        have tr69_704 := zsm_at hz69 704 (Γ.2.1 w 0) 0 (by decide)
        try simp only [zuI_1, zuI_2, zuJ_1, zuJ_2, zuJ_3, zuP_1, zuP_2, zuP_3, zuC_1, zuC_2, reduceIte, Nat.reduceEqDiff, false_and, and_false, true_and, and_true, and_self, or_true, true_or, or_false, false_or] at tr69_704
        refine zs_if_eq (tgt := 99) (pc := 72) C dX3_readJoint_72 (by decide) (fun h72 => ?_) (fun h72 => ?_)
        · skip
          exact zs_vret (pc := 99) C hr hlk dX3_readJoint_99 ⟨by repeat (first | exact zsm_rf | assumption | refine zsm_C (by decide) ?_ | refine zsm_I (by decide) ?_ | refine zsm_J ?_ | refine zsm_c (by assumption) (by decide) ?_), by first | omega | (simp only [zuI_1, zuI_2, zuJ_1, zuJ_2, zuJ_3, zuP_1, zuP_2, zuP_3, zuC_1, zuC_2, reduceIte, Nat.reduceEqDiff, false_and, and_false, true_and, and_true, and_self, or_true, true_or, or_false, false_or]; omega)⟩
        · skip
          refine zs_aload_n (pc := 75) C dX3_readJoint_75 rfl ?_
          refine zs_iconst (pc := 76) C dX3_readJoint_76 (by decide) ?_
          refine zs_putz (r := 412) (pc := 77) C dX3_readJoint_77 w_X3_171 f_4_12 rfl (r_412 0) (by omega) (by omega) ?_
          refine zs_aload_n (pc := 80) C dX3_readJoint_80 rfl ?_
          refine zs_iload_n (pc := 81) C dX3_readJoint_81 rfl ?_
          refine zs_iconst (pc := 82) C dX3_readJoint_82 (by decide) ?_
          refine zs_icmp_ge (tgt := 90) (pc := 83) C dX3_readJoint_83 (by decide) (fun h83 => ?_) (fun h83 => ?_)
          · skip
            refine zs_iconst (pc := 90) C dX3_readJoint_90 (by decide) ?_
            refine zs_putz (r := 413) (pc := 91) C dX3_readJoint_91 w_X3_175 f_4_13 rfl (r_413 0) (by omega) (by omega) ?_
            refine zs_aload_n (pc := 94) C dX3_readJoint_94 rfl ?_
            refine zs_iload_n (pc := 95) C dX3_readJoint_95 rfl ?_
            refine zVv1 (pc := 96) C dX3_readJoint_96 v_X3_200 (c_X3_push hX (by first | omega | (simp only [zuI_1, zuI_2, zuJ_1, zuJ_2, zuJ_3, zuP_1, zuP_2, zuP_3, zuC_1, zuC_2, reduceIte, Nat.reduceEqDiff, false_and, and_false, true_and, and_true, and_self, or_true, true_or, or_false, false_or]; omega)) (by first | omega | (simp only [zuI_1, zuI_2, zuJ_1, zuJ_2, zuJ_3, zuP_1, zuP_2, zuP_3, zuC_1, zuC_2, reduceIte, Nat.reduceEqDiff, false_and, and_false, true_and, and_true, and_self, or_true, true_or, or_false, false_or]; omega)) (by first | omega | (simp only [zuI_1, zuI_2, zuJ_1, zuJ_2, zuJ_3, zuP_1, zuP_2, zuP_3, zuC_1, zuC_2, reduceIte, Nat.reduceEqDiff, false_and, and_false, true_and, and_true, and_self, or_true, true_or, or_false, false_or]; omega))) (by decide) (by decide) ⟨Nat.zero_le _, Nat.zero_le _⟩ (Nat.le_of_ble_eq_true rfl) (fun G96 hp96 => ?_)
            obtain ⟨hz96, hq96⟩ := hp96
            try simp only [zuI_1, zuI_2, zuJ_1, zuJ_2, zuJ_3, zuP_1, zuP_2, zuP_3, zuC_1, zuC_2, reduceIte, Nat.reduceEqDiff, false_and, and_false, true_and, and_true, and_self, or_true, true_or, or_false, false_or] at hq96
            have tr96_704 := zsm_at hz96 704 (Γ.2.1 w 0) 0 (by decide)
            try simp only [zuI_1, zuI_2, zuJ_1, zuJ_2, zuJ_3, zuP_1, zuP_2, zuP_3, zuC_1, zuC_2, reduceIte, Nat.reduceEqDiff, false_and, and_false, true_and, and_true, and_self, or_true, true_or, or_false, false_or] at tr96_704
            exact zs_vret (pc := 99) C hr hlk dX3_readJoint_99 ⟨by repeat (first | exact zsm_rf | assumption | refine zsm_C (by decide) ?_ | refine zsm_I (by decide) ?_ | refine zsm_J ?_ | refine zsm_c (by assumption) (by decide) ?_), by first | omega | (simp only [zuI_1, zuI_2, zuJ_1, zuJ_2, zuJ_3, zuP_1, zuP_2, zuP_3, zuC_1, zuC_2, reduceIte, Nat.reduceEqDiff, false_and, and_false, true_and, and_true, and_self, or_true, true_or, or_false, false_or]; omega)⟩
          · skip
            refine zs_iconst (pc := 86) C dX3_readJoint_86 (by decide) ?_
            refine zs_goto (tgt := 91) (pc := 87) C dX3_readJoint_87 (by decide) ?_
            refine zs_putz (r := 413) (pc := 91) C dX3_readJoint_91 w_X3_175 f_4_13 rfl (r_413 0) (by omega) (by omega) ?_
            refine zs_aload_n (pc := 94) C dX3_readJoint_94 rfl ?_
            refine zs_iload_n (pc := 95) C dX3_readJoint_95 rfl ?_
            refine zVv1 (pc := 96) C dX3_readJoint_96 v_X3_200 (c_X3_push hX (by first | omega | (simp only [zuI_1, zuI_2, zuJ_1, zuJ_2, zuJ_3, zuP_1, zuP_2, zuP_3, zuC_1, zuC_2, reduceIte, Nat.reduceEqDiff, false_and, and_false, true_and, and_true, and_self, or_true, true_or, or_false, false_or]; omega)) (by first | omega | (simp only [zuI_1, zuI_2, zuJ_1, zuJ_2, zuJ_3, zuP_1, zuP_2, zuP_3, zuC_1, zuC_2, reduceIte, Nat.reduceEqDiff, false_and, and_false, true_and, and_true, and_self, or_true, true_or, or_false, false_or]; omega)) (by first | omega | (simp only [zuI_1, zuI_2, zuJ_1, zuJ_2, zuJ_3, zuP_1, zuP_2, zuP_3, zuC_1, zuC_2, reduceIte, Nat.reduceEqDiff, false_and, and_false, true_and, and_true, and_self, or_true, true_or, or_false, false_or]; omega))) (by decide) (by decide) ⟨Nat.zero_le _, Nat.zero_le _⟩ (Nat.le_of_ble_eq_true rfl) (fun G96 hp96 => ?_)
            obtain ⟨hz96, hq96⟩ := hp96
            try simp only [zuI_1, zuI_2, zuJ_1, zuJ_2, zuJ_3, zuP_1, zuP_2, zuP_3, zuC_1, zuC_2, reduceIte, Nat.reduceEqDiff, false_and, and_false, true_and, and_true, and_self, or_true, true_or, or_false, false_or] at hq96
            have tr96_704 := zsm_at hz96 704 (Γ.2.1 w 0) 0 (by decide)
            try simp only [zuI_1, zuI_2, zuJ_1, zuJ_2, zuJ_3, zuP_1, zuP_2, zuP_3, zuC_1, zuC_2, reduceIte, Nat.reduceEqDiff, false_and, and_false, true_and, and_true, and_self, or_true, true_or, or_false, false_or] at tr96_704
            exact zs_vret (pc := 99) C hr hlk dX3_readJoint_99 ⟨by repeat (first | exact zsm_rf | assumption | refine zsm_C (by decide) ?_ | refine zsm_I (by decide) ?_ | refine zsm_J ?_ | refine zsm_c (by assumption) (by decide) ?_), by first | omega | (simp only [zuI_1, zuI_2, zuJ_1, zuJ_2, zuJ_3, zuP_1, zuP_2, zuP_3, zuC_1, zuC_2, reduceIte, Nat.reduceEqDiff, false_and, and_false, true_and, and_true, and_self, or_true, true_or, or_false, false_or]; omega)⟩
      · skip
        refine zs_aload_n (pc := 34) C dX3_readJoint_34 rfl ?_
        refine zs_geti (r := 410) (pc := 35) C dX3_readJoint_35 w_X3_165 f_4_10 rfl (r_410 0) (fun v35 e35 l35 u35 => ?_)
        refine zs_if_le (tgt := 68) (pc := 38) C dX3_readJoint_38 (by decide) (fun h38 => ?_) (fun h38 => ?_)
        · skip
          refine zs_aload_n (pc := 68) C dX3_readJoint_68 rfl ?_
          refine zVi0 (pc := 69) C dX3_readJoint_69 v_X3_197 (c_X3_countKnot hX (by omega) (by omega)) (by decide) (by decide) ⟨Nat.zero_le _, Nat.zero_le _⟩ (Nat.le_of_ble_eq_true rfl) (fun x69 G69 l69 u69 hp69 => ?_)
          obtain ⟨hz69, hq69⟩ := hp69
          have tr69_704 := zsm_at hz69 704 (Γ.2.1 w 0) 0 (by decide)
          try simp only [zuI_1, zuI_2, zuJ_1, zuJ_2, zuJ_3, zuP_1, zuP_2, zuP_3, zuC_1, zuC_2, reduceIte, Nat.reduceEqDiff, false_and, and_false, true_and, and_true, and_self, or_true, true_or, or_false, false_or] at tr69_704
          refine zs_if_eq (tgt := 99) (pc := 72) C dX3_readJoint_72 (by decide) (fun h72 => ?_) (fun h72 => ?_)
          · skip
            exact zs_vret (pc := 99) C hr hlk dX3_readJoint_99 ⟨by repeat (first | exact zsm_rf | assumption | refine zsm_C (by decide) ?_ | refine zsm_I (by decide) ?_ | refine zsm_J ?_ | refine zsm_c (by assumption) (by decide) ?_), by first | omega | (simp only [zuI_1, zuI_2, zuJ_1, zuJ_2, zuJ_3, zuP_1, zuP_2, zuP_3, zuC_1, zuC_2, reduceIte, Nat.reduceEqDiff, false_and, and_false, true_and, and_true, and_self, or_true, true_or, or_false, false_or]; omega)⟩
          · skip
            refine zs_aload_n (pc := 75) C dX3_readJoint_75 rfl ?_
            refine zs_iconst (pc := 76) C dX3_readJoint_76 (by decide) ?_
            refine zs_putz (r := 412) (pc := 77) C dX3_readJoint_77 w_X3_171 f_4_12 rfl (r_412 0) (by omega) (by omega) ?_
            refine zs_aload_n (pc := 80) C dX3_readJoint_80 rfl ?_
            refine zs_iload_n (pc := 81) C dX3_readJoint_81 rfl ?_
            refine zs_iconst (pc := 82) C dX3_readJoint_82 (by decide) ?_
            refine zs_icmp_ge (tgt := 90) (pc := 83) C dX3_readJoint_83 (by decide) (fun h83 => ?_) (fun h83 => ?_)
            · skip
              refine zs_iconst (pc := 90) C dX3_readJoint_90 (by decide) ?_
              refine zs_putz (r := 413) (pc := 91) C dX3_readJoint_91 w_X3_175 f_4_13 rfl (r_413 0) (by omega) (by omega) ?_
              refine zs_aload_n (pc := 94) C dX3_readJoint_94 rfl ?_
              refine zs_iload_n (pc := 95) C dX3_readJoint_95 rfl ?_
              refine zVv1 (pc := 96) C dX3_readJoint_96 v_X3_200 (c_X3_push hX (by first | omega | (simp only [zuI_1, zuI_2, zuJ_1, zuJ_2, zuJ_3, zuP_1, zuP_2, zuP_3, zuC_1, zuC_2, reduceIte, Nat.reduceEqDiff, false_and, and_false, true_and, and_true, and_self, or_true, true_or, or_false, false_or]; omega)) (by first | omega | (simp only [zuI_1, zuI_2, zuJ_1, zuJ_2, zuJ_3, zuP_1, zuP_2, zuP_3, zuC_1, zuC_2, reduceIte, Nat.reduceEqDiff, false_and, and_false, true_and, and_true, and_self, or_true, true_or, or_false, false_or]; omega)) (by first | omega | (simp only [zuI_1, zuI_2, zuJ_1, zuJ_2, zuJ_3, zuP_1, zuP_2, zuP_3, zuC_1, zuC_2, reduceIte, Nat.reduceEqDiff, false_and, and_false, true_and, and_true, and_self, or_true, true_or, or_false, false_or]; omega))) (by decide) (by decide) ⟨Nat.zero_le _, Nat.zero_le _⟩ (Nat.le_of_ble_eq_true rfl) (fun G96 hp96 => ?_)
              obtain ⟨hz96, hq96⟩ := hp96
              try simp only [zuI_1, zuI_2, zuJ_1, zuJ_2, zuJ_3, zuP_1, zuP_2, zuP_3, zuC_1, zuC_2, reduceIte, Nat.reduceEqDiff, false_and, and_false, true_and, and_true, and_self, or_true, true_or, or_false, false_or] at hq96
              have tr96_704 := zsm_at hz96 704 (Γ.2.1 w 0) 0 (by decide)
              try simp only [zuI_1, zuI_2, zuJ_1, zuJ_2, zuJ_3, zuP_1, zuP_2, zuP_3, zuC_1, zuC_2, reduceIte, Nat.reduceEqDiff, false_and, and_false, true_and, and_true, and_self, or_true, true_or, or_false, false_or] at tr96_704
              exact zs_vret (pc := 99) C hr hlk dX3_readJoint_99 ⟨by repeat (first | exact zsm_rf | assumption | refine zsm_C (by decide) ?_ | refine zsm_I (by decide) ?_ | refine zsm_J ?_ | refine zsm_c (by assumption) (by decide) ?_), by first | omega | (simp only [zuI_1, zuI_2, zuJ_1, zuJ_2, zuJ_3, zuP_1, zuP_2, zuP_3, zuC_1, zuC_2, reduceIte, Nat.reduceEqDiff, false_and, and_false, true_and, and_true, and_self, or_true, true_or, or_false, false_or]; omega)⟩
            · skip
              refine zs_iconst (pc := 86) C dX3_readJoint_86 (by decide) ?_
              refine zs_goto (tgt := 91) (pc := 87) C dX3_readJoint_87 (by decide) ?_
              refine zs_putz (r := 413) (pc := 91) C dX3_readJoint_91 w_X3_175 f_4_13 rfl (r_413 0) (by omega) (by omega) ?_
              refine zs_aload_n (pc := 94) C dX3_readJoint_94 rfl ?_
              refine zs_iload_n (pc := 95) C dX3_readJoint_95 rfl ?_
              refine zVv1 (pc := 96) C dX3_readJoint_96 v_X3_200 (c_X3_push hX (by first | omega | (simp only [zuI_1, zuI_2, zuJ_1, zuJ_2, zuJ_3, zuP_1, zuP_2, zuP_3, zuC_1, zuC_2, reduceIte, Nat.reduceEqDiff, false_and, and_false, true_and, and_true, and_self, or_true, true_or, or_false, false_or]; omega)) (by first | omega | (simp only [zuI_1, zuI_2, zuJ_1, zuJ_2, zuJ_3, zuP_1, zuP_2, zuP_3, zuC_1, zuC_2, reduceIte, Nat.reduceEqDiff, false_and, and_false, true_and, and_true, and_self, or_true, true_or, or_false, false_or]; omega)) (by first | omega | (simp only [zuI_1, zuI_2, zuJ_1, zuJ_2, zuJ_3, zuP_1, zuP_2, zuP_3, zuC_1, zuC_2, reduceIte, Nat.reduceEqDiff, false_and, and_false, true_and, and_true, and_self, or_true, true_or, or_false, false_or]; omega))) (by decide) (by decide) ⟨Nat.zero_le _, Nat.zero_le _⟩ (Nat.le_of_ble_eq_true rfl) (fun G96 hp96 => ?_)
              obtain ⟨hz96, hq96⟩ := hp96
              try simp only [zuI_1, zuI_2, zuJ_1, zuJ_2, zuJ_3, zuP_1, zuP_2, zuP_3, zuC_1, zuC_2, reduceIte, Nat.reduceEqDiff, false_and, and_false, true_and, and_true, and_self, or_true, true_or, or_false, false_or] at hq96
              have tr96_704 := zsm_at hz96 704 (Γ.2.1 w 0) 0 (by decide)
              try simp only [zuI_1, zuI_2, zuJ_1, zuJ_2, zuJ_3, zuP_1, zuP_2, zuP_3, zuC_1, zuC_2, reduceIte, Nat.reduceEqDiff, false_and, and_false, true_and, and_true, and_self, or_true, true_or, or_false, false_or] at tr96_704
              exact zs_vret (pc := 99) C hr hlk dX3_readJoint_99 ⟨by repeat (first | exact zsm_rf | assumption | refine zsm_C (by decide) ?_ | refine zsm_I (by decide) ?_ | refine zsm_J ?_ | refine zsm_c (by assumption) (by decide) ?_), by first | omega | (simp only [zuI_1, zuI_2, zuJ_1, zuJ_2, zuJ_3, zuP_1, zuP_2, zuP_3, zuC_1, zuC_2, reduceIte, Nat.reduceEqDiff, false_and, and_false, true_and, and_true, and_self, or_true, true_or, or_false, false_or]; omega)⟩
        · skip
          refine zs_binds (pc := 41) C dX3_readJoint_41 q_X3_220 ?_
          refine zs_aload_n (pc := 44) C dX3_readJoint_44 rfl ?_
          refine zs_getf (pc := 45) C dX3_readJoint_45 w_X3_27 f_4_9 (by decide) ?_
          refine zs_aload_n (pc := 48) C dX3_readJoint_48 rfl ?_
          refine zs_geti (r := 410) (pc := 49) C dX3_readJoint_49 w_X3_165 f_4_10 rfl (r_410 0) (fun v49 e49 l49 u49 => ?_)
          refine zs_iconst (pc := 52) C dX3_readJoint_52 (by decide) ?_
          first | refine zs_isub (pc := 53) C dX3_readJoint_53 (by omega) ?_ | refine zs_isubF (pc := 53) C dX3_readJoint_53 (fun z53 hz531 hz532 => ?_)
          refine zs_iald (r := 2025) (pc := 54) C dX3_readJoint_54 a_25 (by decide) (by omega) rfl (r_2025 _) (fun v54 e54 l54 u54 => ?_)
          refine zs_xald (pc := 55) C 1 dX3_readJoint_55 (by decide) rfl (by have := hX.1; have := hX.2.1; omega) (fun v55 e55 l55 u55 => ?_)
          refine zs_iconst (pc := 56) C dX3_readJoint_56 (by decide) ?_
          refine zs_icmp_ne (tgt := 68) (pc := 57) C dX3_readJoint_57 (by decide) (fun h57 => ?_) (fun h57 => ?_)
          · skip
            refine zs_aload_n (pc := 68) C dX3_readJoint_68 rfl ?_
            refine zVi0 (pc := 69) C dX3_readJoint_69 v_X3_197 (c_X3_countKnot hX (by omega) (by omega)) (by decide) (by decide) ⟨Nat.zero_le _, Nat.zero_le _⟩ (Nat.le_of_ble_eq_true rfl) (fun x69 G69 l69 u69 hp69 => ?_)
            obtain ⟨hz69, hq69⟩ := hp69
            have tr69_704 := zsm_at hz69 704 (Γ.2.1 w 0) 0 (by decide)
            try simp only [zuI_1, zuI_2, zuJ_1, zuJ_2, zuJ_3, zuP_1, zuP_2, zuP_3, zuC_1, zuC_2, reduceIte, Nat.reduceEqDiff, false_and, and_false, true_and, and_true, and_self, or_true, true_or, or_false, false_or] at tr69_704
            refine zs_if_eq (tgt := 99) (pc := 72) C dX3_readJoint_72 (by decide) (fun h72 => ?_) (fun h72 => ?_)
            · skip
              exact zs_vret (pc := 99) C hr hlk dX3_readJoint_99 ⟨by repeat (first | exact zsm_rf | assumption | refine zsm_C (by decide) ?_ | refine zsm_I (by decide) ?_ | refine zsm_J ?_ | refine zsm_c (by assumption) (by decide) ?_), by first | omega | (simp only [zuI_1, zuI_2, zuJ_1, zuJ_2, zuJ_3, zuP_1, zuP_2, zuP_3, zuC_1, zuC_2, reduceIte, Nat.reduceEqDiff, false_and, and_false, true_and, and_true, and_self, or_true, true_or, or_false, false_or]; omega)⟩
            · skip
              refine zs_aload_n (pc := 75) C dX3_readJoint_75 rfl ?_
              refine zs_iconst (pc := 76) C dX3_readJoint_76 (by decide) ?_
              refine zs_putz (r := 412) (pc := 77) C dX3_readJoint_77 w_X3_171 f_4_12 rfl (r_412 0) (by omega) (by omega) ?_
              refine zs_aload_n (pc := 80) C dX3_readJoint_80 rfl ?_
              refine zs_iload_n (pc := 81) C dX3_readJoint_81 rfl ?_
              refine zs_iconst (pc := 82) C dX3_readJoint_82 (by decide) ?_
              refine zs_icmp_ge (tgt := 90) (pc := 83) C dX3_readJoint_83 (by decide) (fun h83 => ?_) (fun h83 => ?_)
              · skip
                refine zs_iconst (pc := 90) C dX3_readJoint_90 (by decide) ?_
                refine zs_putz (r := 413) (pc := 91) C dX3_readJoint_91 w_X3_175 f_4_13 rfl (r_413 0) (by omega) (by omega) ?_
                refine zs_aload_n (pc := 94) C dX3_readJoint_94 rfl ?_
                refine zs_iload_n (pc := 95) C dX3_readJoint_95 rfl ?_
                refine zVv1 (pc := 96) C dX3_readJoint_96 v_X3_200 (c_X3_push hX (by first | omega | (simp only [zuI_1, zuI_2, zuJ_1, zuJ_2, zuJ_3, zuP_1, zuP_2, zuP_3, zuC_1, zuC_2, reduceIte, Nat.reduceEqDiff, false_and, and_false, true_and, and_true, and_self, or_true, true_or, or_false, false_or]; omega)) (by first | omega | (simp only [zuI_1, zuI_2, zuJ_1, zuJ_2, zuJ_3, zuP_1, zuP_2, zuP_3, zuC_1, zuC_2, reduceIte, Nat.reduceEqDiff, false_and, and_false, true_and, and_true, and_self, or_true, true_or, or_false, false_or]; omega)) (by first | omega | (simp only [zuI_1, zuI_2, zuJ_1, zuJ_2, zuJ_3, zuP_1, zuP_2, zuP_3, zuC_1, zuC_2, reduceIte, Nat.reduceEqDiff, false_and, and_false, true_and, and_true, and_self, or_true, true_or, or_false, false_or]; omega))) (by decide) (by decide) ⟨Nat.zero_le _, Nat.zero_le _⟩ (Nat.le_of_ble_eq_true rfl) (fun G96 hp96 => ?_)
                obtain ⟨hz96, hq96⟩ := hp96
                try simp only [zuI_1, zuI_2, zuJ_1, zuJ_2, zuJ_3, zuP_1, zuP_2, zuP_3, zuC_1, zuC_2, reduceIte, Nat.reduceEqDiff, false_and, and_false, true_and, and_true, and_self, or_true, true_or, or_false, false_or] at hq96
                have tr96_704 := zsm_at hz96 704 (Γ.2.1 w 0) 0 (by decide)
                try simp only [zuI_1, zuI_2, zuJ_1, zuJ_2, zuJ_3, zuP_1, zuP_2, zuP_3, zuC_1, zuC_2, reduceIte, Nat.reduceEqDiff, false_and, and_false, true_and, and_true, and_self, or_true, true_or, or_false, false_or] at tr96_704
                exact zs_vret (pc := 99) C hr hlk dX3_readJoint_99 ⟨by repeat (first | exact zsm_rf | assumption | refine zsm_C (by decide) ?_ | refine zsm_I (by decide) ?_ | refine zsm_J ?_ | refine zsm_c (by assumption) (by decide) ?_), by first | omega | (simp only [zuI_1, zuI_2, zuJ_1, zuJ_2, zuJ_3, zuP_1, zuP_2, zuP_3, zuC_1, zuC_2, reduceIte, Nat.reduceEqDiff, false_and, and_false, true_and, and_true, and_self, or_true, true_or, or_false, false_or]; omega)⟩
              · skip
                refine zs_iconst (pc := 86) C dX3_readJoint_86 (by decide) ?_
                refine zs_goto (tgt := 91) (pc := 87) C dX3_readJoint_87 (by decide) ?_
                refine zs_putz (r := 413) (pc := 91) C dX3_readJoint_91 w_X3_175 f_4_13 rfl (r_413 0) (by omega) (by omega) ?_
                refine zs_aload_n (pc := 94) C dX3_readJoint_94 rfl ?_
                refine zs_iload_n (pc := 95) C dX3_readJoint_95 rfl ?_
                refine zVv1 (pc := 96) C dX3_readJoint_96 v_X3_200 (c_X3_push hX (by first | omega | (simp only [zuI_1, zuI_2, zuJ_1, zuJ_2, zuJ_3, zuP_1, zuP_2, zuP_3, zuC_1, zuC_2, reduceIte, Nat.reduceEqDiff, false_and, and_false, true_and, and_true, and_self, or_true, true_or, or_false, false_or]; omega)) (by first | omega | (simp only [zuI_1, zuI_2, zuJ_1, zuJ_2, zuJ_3, zuP_1, zuP_2, zuP_3, zuC_1, zuC_2, reduceIte, Nat.reduceEqDiff, false_and, and_false, true_and, and_true, and_self, or_true, true_or, or_false, false_or]; omega)) (by first | omega | (simp only [zuI_1, zuI_2, zuJ_1, zuJ_2, zuJ_3, zuP_1, zuP_2, zuP_3, zuC_1, zuC_2, reduceIte, Nat.reduceEqDiff, false_and, and_false, true_and, and_true, and_self, or_true, true_or, or_false, false_or]; omega))) (by decide) (by decide) ⟨Nat.zero_le _, Nat.zero_le _⟩ (Nat.le_of_ble_eq_true rfl) (fun G96 hp96 => ?_)
                obtain ⟨hz96, hq96⟩ := hp96
                try simp only [zuI_1, zuI_2, zuJ_1, zuJ_2, zuJ_3, zuP_1, zuP_2, zuP_3, zuC_1, zuC_2, reduceIte, Nat.reduceEqDiff, false_and, and_false, true_and, and_true, and_self, or_true, true_or, or_false, false_or] at hq96
                have tr96_704 := zsm_at hz96 704 (Γ.2.1 w 0) 0 (by decide)
                try simp only [zuI_1, zuI_2, zuJ_1, zuJ_2, zuJ_3, zuP_1, zuP_2, zuP_3, zuC_1, zuC_2, reduceIte, Nat.reduceEqDiff, false_and, and_false, true_and, and_true, and_self, or_true, true_or, or_false, false_or] at tr96_704
                exact zs_vret (pc := 99) C hr hlk dX3_readJoint_99 ⟨by repeat (first | exact zsm_rf | assumption | refine zsm_C (by decide) ?_ | refine zsm_I (by decide) ?_ | refine zsm_J ?_ | refine zsm_c (by assumption) (by decide) ?_), by first | omega | (simp only [zuI_1, zuI_2, zuJ_1, zuJ_2, zuJ_3, zuP_1, zuP_2, zuP_3, zuC_1, zuC_2, reduceIte, Nat.reduceEqDiff, false_and, and_false, true_and, and_true, and_self, or_true, true_or, or_false, false_or]; omega)⟩
          · skip
            refine zs_aload_n (pc := 60) C dX3_readJoint_60 rfl ?_
            refine zs_iconst (pc := 61) C dX3_readJoint_61 (by decide) ?_
            refine zVv1 (pc := 62) C dX3_readJoint_62 v_X3_114 (c_X3_fail hX (by omega) (by omega)) (by decide) (by decide) ⟨Nat.zero_le _, Nat.zero_le _⟩ (Nat.le_of_ble_eq_true rfl) (fun G62 hp62 => ?_)
            obtain ⟨hz62, hq62⟩ := hp62
            have tr62_704 := zsm_at hz62 704 (Γ.2.1 w 0) 0 (by decide)
            try simp only [zuI_1, zuI_2, zuJ_1, zuJ_2, zuJ_3, zuP_1, zuP_2, zuP_3, zuC_1, zuC_2, reduceIte, Nat.reduceEqDiff, false_and, and_false, true_and, and_true, and_self, or_true, true_or, or_false, false_or] at tr62_704
            have tr62_402 := zsm_at hz62 402 w 0 (by decide)
            try simp only [zuI_1, zuI_2, zuJ_1, zuJ_2, zuJ_3, zuP_1, zuP_2, zuP_3, zuC_1, zuC_2, reduceIte, Nat.reduceEqDiff, false_and, and_false, true_and, and_true, and_self, or_true, true_or, or_false, false_or] at tr62_402
            refine zs_goto (tgt := 99) (pc := 65) C dX3_readJoint_65 (by decide) ?_
            exact zs_vret (pc := 99) C hr hlk dX3_readJoint_99 ⟨by repeat (first | exact zsm_rf | assumption | refine zsm_C (by decide) ?_ | refine zsm_I (by decide) ?_ | refine zsm_J ?_ | refine zsm_c (by assumption) (by decide) ?_), by first | omega | (simp only [zuI_1, zuI_2, zuJ_1, zuJ_2, zuJ_3, zuP_1, zuP_2, zuP_3, zuC_1, zuC_2, reduceIte, Nat.reduceEqDiff, false_and, and_false, true_and, and_true, and_self, or_true, true_or, or_false, false_or]; omega)⟩

set_option maxHeartbeats 4000000 in
set_option maxRecDepth 100000 in
theorem c_X3_readBehindSide {l : Launch} {Γ : zΓ} {G : zH} {w : Nat}  (hX : zXs Γ) (h1 : 1 ≤ G.1 704 (Γ.2.1 w 0) 0) (h2 : 0 ≤ G.1 402 w 0)  : zMet l Γ yX3_readBehindSide cX3_readBehindSide 2 (some .boolean) 3 [zr 4 w] G (zpi (fun x G' => zsm [402, 403, 404, 405, 406, 407, 408, 409, 410, 411, 412, 413, 2025, 206, 207, 2014, 2015, 2016, 2017, 2036, 2037, 2038, 2039, 2040, 2041, 2042, 2043, 609, 610, 611, 612] G G' ∧ (0 ≤ G'.1 402 w 0 ∧ (x = 0 ∨ x = 1)))) := by
  refine zMet_of RX3 hX (by decide) rfl (Nat.le_of_ble_eq_true rfl) ?_
  intro p e s m args below meth c C hr hlk
  show Z p l e (zrm 3) s m args below meth c Γ 2 0 0 (MQ below (zQc Γ (zpi (fun x G' => zsm [402, 403, 404, 405, 406, 407, 408, 409, 410, 411, 412, 413, 2025, 206, 207, 2014, 2015, 2016, 2017, 2036, 2037, 2038, 2039, 2040, 2041, 2042, 2043, 609, 610, 611, 612] G G' ∧ (0 ≤ G'.1 402 w 0 ∧ (x = 0 ∨ x = 1))))) args s 0 0 (zA Γ)) 0 [some (zr 4 w), none] [] G
  refine zs_aload_n (pc := 0) C dX3_readBehindSide_0 rfl ?_
  refine zVip0 (pc := 1) C dX3_readBehindSide_1 v_X3_209 (c_X3_knotHere hX ) (by decide) (by decide) ⟨Nat.zero_le _, Nat.zero_le _⟩ (Nat.le_of_ble_eq_true rfl) (fun x1 l1 u1 hp1 => ?_)
  have hq1 := hp1
  refine zs_istore_n (pc := 4) C dX3_readBehindSide_4 (by decide) ?_
  dsimp only [zset, zclr, znone]
  refine zs_iload_n (pc := 5) C dX3_readBehindSide_5 rfl ?_
  refine zs_iconst (pc := 6) C dX3_readBehindSide_6 (by decide) ?_
  refine zs_icmp_eq (tgt := 17) (pc := 7) C dX3_readBehindSide_7 (by decide) (fun h7 => ?_) (fun h7 => ?_)
  · skip
    refine zs_aload_n (pc := 17) C dX3_readBehindSide_17 rfl ?_
    refine zs_geti (r := 411) (pc := 18) C dX3_readBehindSide_18 w_X3_168 f_4_11 rfl (r_411 0) (fun v18 e18 l18 u18 => ?_)
    refine zs_if_eq (tgt := 33) (pc := 21) C dX3_readBehindSide_21 (by decide) (fun h21 => ?_) (fun h21 => ?_)
    · skip
      refine zs_aload_n (pc := 33) C dX3_readBehindSide_33 rfl ?_
      refine zs_geti (r := 411) (pc := 34) C dX3_readBehindSide_34 w_X3_168 f_4_11 rfl (r_411 0) (fun v34 e34 l34 u34 => ?_)
      refine zs_if_le (tgt := 45) (pc := 37) C dX3_readBehindSide_37 (by decide) (fun h37 => ?_) (fun h37 => ?_)
      · skip
        refine zs_iconst (pc := 45) C dX3_readBehindSide_45 (by decide) ?_
        exact zs_zret (pc := 46) C hr hlk dX3_readBehindSide_46 (by omega) ⟨by repeat (first | exact zsm_rf | assumption | refine zsm_C (by decide) ?_ | refine zsm_I (by decide) ?_ | refine zsm_J ?_ | refine zsm_c (by assumption) (by decide) ?_), by first | omega | (simp only [zuI_1, zuI_2, zuJ_1, zuJ_2, zuJ_3, zuP_1, zuP_2, zuP_3, zuC_1, zuC_2, reduceIte, Nat.reduceEqDiff, false_and, and_false, true_and, and_true, and_self, or_true, true_or, or_false, false_or]; omega)⟩
      · skip
        refine zs_aload_n (pc := 40) C dX3_readBehindSide_40 rfl ?_
        refine zs_iconst (pc := 41) C dX3_readBehindSide_41 (by decide) ?_
        refine zVv1 (pc := 42) C dX3_readBehindSide_42 v_X3_114 (c_X3_fail hX (by omega) (by omega)) (by decide) (by decide) ⟨Nat.zero_le _, Nat.zero_le _⟩ (Nat.le_of_ble_eq_true rfl) (fun G42 hp42 => ?_)
        obtain ⟨hz42, hq42⟩ := hp42
        have tr42_704 := zsm_at hz42 704 (Γ.2.1 w 0) 0 (by decide)
        try simp only [zuI_1, zuI_2, zuJ_1, zuJ_2, zuJ_3, zuP_1, zuP_2, zuP_3, zuC_1, zuC_2, reduceIte, Nat.reduceEqDiff, false_and, and_false, true_and, and_true, and_self, or_true, true_or, or_false, false_or] at tr42_704
        have tr42_402 := zsm_at hz42 402 w 0 (by decide)
        try simp only [zuI_1, zuI_2, zuJ_1, zuJ_2, zuJ_3, zuP_1, zuP_2, zuP_3, zuC_1, zuC_2, reduceIte, Nat.reduceEqDiff, false_and, and_false, true_and, and_true, and_self, or_true, true_or, or_false, false_or] at tr42_402
        have tr42_411 := zsm_at hz42 411 w 0 (by decide)
        try simp only [zuI_1, zuI_2, zuJ_1, zuJ_2, zuJ_3, zuP_1, zuP_2, zuP_3, zuC_1, zuC_2, reduceIte, Nat.reduceEqDiff, false_and, and_false, true_and, and_true, and_self, or_true, true_or, or_false, false_or] at tr42_411
        refine zs_iconst (pc := 45) C dX3_readBehindSide_45 (by decide) ?_
        exact zs_zret (pc := 46) C hr hlk dX3_readBehindSide_46 (by omega) ⟨by repeat (first | exact zsm_rf | assumption | refine zsm_C (by decide) ?_ | refine zsm_I (by decide) ?_ | refine zsm_J ?_ | refine zsm_c (by assumption) (by decide) ?_), by first | omega | (simp only [zuI_1, zuI_2, zuJ_1, zuJ_2, zuJ_3, zuP_1, zuP_2, zuP_3, zuC_1, zuC_2, reduceIte, Nat.reduceEqDiff, false_and, and_false, true_and, and_true, and_self, or_true, true_or, or_false, false_or]; omega)⟩
    · skip
      refine zs_aload_n (pc := 24) C dX3_readBehindSide_24 rfl ?_
      refine zs_bipush (pc := 25) C dX3_readBehindSide_25 (by decide) (by decide) ?_
      refine zVip1 (pc := 27) C dX3_readBehindSide_27 v_X3_117 (c_X3_isSign hX ) (by decide) (by decide) ⟨Nat.zero_le _, Nat.zero_le _⟩ (Nat.le_of_ble_eq_true rfl) (fun x27 l27 u27 hp27 => ?_)
      have hq27 := hp27
      refine zs_if_ne (tgt := 47) (pc := 30) C dX3_readBehindSide_30 (by decide) (fun h30 => ?_) (fun h30 => ?_)
      · skip
        refine zs_aload_n (pc := 47) C dX3_readBehindSide_47 rfl ?_
        refine zs_iconst (pc := 48) C dX3_readBehindSide_48 (by decide) ?_
        refine zVv1 (pc := 49) C dX3_readBehindSide_49 v_X3_188 (c_X3_release hX (by omega) (by omega)) (by decide) (by decide) ⟨Nat.zero_le _, Nat.zero_le _⟩ (Nat.le_of_ble_eq_true rfl) (fun G49 hp49 => ?_)
        obtain ⟨hz49, hq49⟩ := hp49
        have tr49_704 := zsm_at hz49 704 (Γ.2.1 w 0) 0 (by decide)
        try simp only [zuI_1, zuI_2, zuJ_1, zuJ_2, zuJ_3, zuP_1, zuP_2, zuP_3, zuC_1, zuC_2, reduceIte, Nat.reduceEqDiff, false_and, and_false, true_and, and_true, and_self, or_true, true_or, or_false, false_or] at tr49_704
        have tr49_402 := zsm_at hz49 402 w 0 (by decide)
        try simp only [zuI_1, zuI_2, zuJ_1, zuJ_2, zuJ_3, zuP_1, zuP_2, zuP_3, zuC_1, zuC_2, reduceIte, Nat.reduceEqDiff, false_and, and_false, true_and, and_true, and_self, or_true, true_or, or_false, false_or] at tr49_402
        have tr49_407 := zsm_at hz49 407 w 0 (by decide)
        try simp only [zuI_1, zuI_2, zuJ_1, zuJ_2, zuJ_3, zuP_1, zuP_2, zuP_3, zuC_1, zuC_2, reduceIte, Nat.reduceEqDiff, false_and, and_false, true_and, and_true, and_self, or_true, true_or, or_false, false_or] at tr49_407
        have tr49_411 := zsm_at hz49 411 w 0 (by decide)
        try simp only [zuI_1, zuI_2, zuJ_1, zuJ_2, zuJ_3, zuP_1, zuP_2, zuP_3, zuC_1, zuC_2, reduceIte, Nat.reduceEqDiff, false_and, and_false, true_and, and_true, and_self, or_true, true_or, or_false, false_or] at tr49_411
        refine zs_aload_n (pc := 52) C dX3_readBehindSide_52 rfl ?_
        refine zs_iconst (pc := 53) C dX3_readBehindSide_53 (by decide) ?_
        refine zs_aload_n (pc := 54) C dX3_readBehindSide_54 rfl ?_
        refine zs_geti (r := 410) (pc := 55) C dX3_readBehindSide_55 w_X3_165 f_4_10 rfl (r_410 0) (fun v55 e55 l55 u55 => ?_)
        refine zs_iconst (pc := 58) C dX3_readBehindSide_58 (by decide) ?_
        first | refine zs_isub (pc := 59) C dX3_readBehindSide_59 (by omega) ?_ | refine zs_isubF (pc := 59) C dX3_readBehindSide_59 (fun z59 hz591 hz592 => ?_)
        refine zs_maxI (pc := 60) C dX3_readBehindSide_60 s_X3_215 (by decide) (Nat.le_of_ble_eq_true rfl) ⟨Nat.zero_le _, Nat.zero_le _⟩ (fun z60 hz60 => ?_)
        refine zs_puti (r := 410) (pc := 63) C dX3_readBehindSide_63 w_X3_165 f_4_10 rfl (r_410 0) (by omega) ?_
        refine zs_aload_n (pc := 66) C dX3_readBehindSide_66 rfl ?_
        refine zs_dupa (pc := 67) C dX3_readBehindSide_67 ?_
        refine zs_geti (r := 411) (pc := 68) C dX3_readBehindSide_68 w_X3_168 f_4_11 rfl (r_411 0) (fun v68 e68 l68 u68 => ?_)
        try simp only [zuI_1, zuI_2, zuJ_1, zuJ_2, zuJ_3, zuP_1, zuP_2, zuP_3, zuC_1, zuC_2, reduceIte, Nat.reduceEqDiff, false_and, and_false, true_and, and_true, and_self, or_true, true_or, or_false, false_or] at e68
        refine zs_iconst (pc := 71) C dX3_readBehindSide_71 (by decide) ?_
        first | refine zs_isub (pc := 72) C dX3_readBehindSide_72 (by omega) ?_ | refine zs_isubF (pc := 72) C dX3_readBehindSide_72 (fun z72 hz721 hz722 => ?_)
        refine zs_puti (r := 411) (pc := 73) C dX3_readBehindSide_73 w_X3_168 f_4_11 rfl (r_411 0) (by omega) ?_
        refine zs_aload_n (pc := 76) C dX3_readBehindSide_76 rfl ?_
        refine zVv0 (pc := 77) C dX3_readBehindSide_77 v_X3_51 (c_X3_next hX (by first | omega | (simp only [zuI_1, zuI_2, zuJ_1, zuJ_2, zuJ_3, zuP_1, zuP_2, zuP_3, zuC_1, zuC_2, reduceIte, Nat.reduceEqDiff, false_and, and_false, true_and, and_true, and_self, or_true, true_or, or_false, false_or]; omega))) (by decide) (by decide) ⟨Nat.zero_le _, Nat.zero_le _⟩ (Nat.le_of_ble_eq_true rfl) (fun G77 hp77 => ?_)
        obtain ⟨hz77, hq77⟩ := hp77
        try simp only [zuI_1, zuI_2, zuJ_1, zuJ_2, zuJ_3, zuP_1, zuP_2, zuP_3, zuC_1, zuC_2, reduceIte, Nat.reduceEqDiff, false_and, and_false, true_and, and_true, and_self, or_true, true_or, or_false, false_or] at hq77
        have tr77_704 := zsm_at hz77 704 (Γ.2.1 w 0) 0 (by decide)
        try simp only [zuI_1, zuI_2, zuJ_1, zuJ_2, zuJ_3, zuP_1, zuP_2, zuP_3, zuC_1, zuC_2, reduceIte, Nat.reduceEqDiff, false_and, and_false, true_and, and_true, and_self, or_true, true_or, or_false, false_or] at tr77_704
        have tr77_407 := zsm_at hz77 407 w 0 (by decide)
        try simp only [zuI_1, zuI_2, zuJ_1, zuJ_2, zuJ_3, zuP_1, zuP_2, zuP_3, zuC_1, zuC_2, reduceIte, Nat.reduceEqDiff, false_and, and_false, true_and, and_true, and_self, or_true, true_or, or_false, false_or] at tr77_407
        have tr77_411 := zsm_at hz77 411 w 0 (by decide)
        try simp only [zuI_1, zuI_2, zuJ_1, zuJ_2, zuJ_3, zuP_1, zuP_2, zuP_3, zuC_1, zuC_2, reduceIte, Nat.reduceEqDiff, false_and, and_false, true_and, and_true, and_self, or_true, true_or, or_false, false_or] at tr77_411
        refine zs_iconst (pc := 80) C dX3_readBehindSide_80 (by decide) ?_
        exact zs_zret (pc := 81) C hr hlk dX3_readBehindSide_81 (by omega) ⟨by repeat (first | exact zsm_rf | assumption | refine zsm_C (by decide) ?_ | refine zsm_I (by decide) ?_ | refine zsm_J ?_ | refine zsm_c (by assumption) (by decide) ?_), by first | omega | (simp only [zuI_1, zuI_2, zuJ_1, zuJ_2, zuJ_3, zuP_1, zuP_2, zuP_3, zuC_1, zuC_2, reduceIte, Nat.reduceEqDiff, false_and, and_false, true_and, and_true, and_self, or_true, true_or, or_false, false_or]; omega)⟩
      · skip
        refine zs_aload_n (pc := 33) C dX3_readBehindSide_33 rfl ?_
        refine zs_geti (r := 411) (pc := 34) C dX3_readBehindSide_34 w_X3_168 f_4_11 rfl (r_411 0) (fun v34 e34 l34 u34 => ?_)
        refine zs_if_le (tgt := 45) (pc := 37) C dX3_readBehindSide_37 (by decide) (fun h37 => ?_) (fun h37 => ?_)
        · skip
          refine zs_iconst (pc := 45) C dX3_readBehindSide_45 (by decide) ?_
          exact zs_zret (pc := 46) C hr hlk dX3_readBehindSide_46 (by omega) ⟨by repeat (first | exact zsm_rf | assumption | refine zsm_C (by decide) ?_ | refine zsm_I (by decide) ?_ | refine zsm_J ?_ | refine zsm_c (by assumption) (by decide) ?_), by first | omega | (simp only [zuI_1, zuI_2, zuJ_1, zuJ_2, zuJ_3, zuP_1, zuP_2, zuP_3, zuC_1, zuC_2, reduceIte, Nat.reduceEqDiff, false_and, and_false, true_and, and_true, and_self, or_true, true_or, or_false, false_or]; omega)⟩
        · skip
          refine zs_aload_n (pc := 40) C dX3_readBehindSide_40 rfl ?_
          refine zs_iconst (pc := 41) C dX3_readBehindSide_41 (by decide) ?_
          refine zVv1 (pc := 42) C dX3_readBehindSide_42 v_X3_114 (c_X3_fail hX (by omega) (by omega)) (by decide) (by decide) ⟨Nat.zero_le _, Nat.zero_le _⟩ (Nat.le_of_ble_eq_true rfl) (fun G42 hp42 => ?_)
          obtain ⟨hz42, hq42⟩ := hp42
          have tr42_704 := zsm_at hz42 704 (Γ.2.1 w 0) 0 (by decide)
          try simp only [zuI_1, zuI_2, zuJ_1, zuJ_2, zuJ_3, zuP_1, zuP_2, zuP_3, zuC_1, zuC_2, reduceIte, Nat.reduceEqDiff, false_and, and_false, true_and, and_true, and_self, or_true, true_or, or_false, false_or] at tr42_704
          have tr42_402 := zsm_at hz42 402 w 0 (by decide)
          try simp only [zuI_1, zuI_2, zuJ_1, zuJ_2, zuJ_3, zuP_1, zuP_2, zuP_3, zuC_1, zuC_2, reduceIte, Nat.reduceEqDiff, false_and, and_false, true_and, and_true, and_self, or_true, true_or, or_false, false_or] at tr42_402
          have tr42_411 := zsm_at hz42 411 w 0 (by decide)
          try simp only [zuI_1, zuI_2, zuJ_1, zuJ_2, zuJ_3, zuP_1, zuP_2, zuP_3, zuC_1, zuC_2, reduceIte, Nat.reduceEqDiff, false_and, and_false, true_and, and_true, and_self, or_true, true_or, or_false, false_or] at tr42_411
          refine zs_iconst (pc := 45) C dX3_readBehindSide_45 (by decide) ?_
          exact zs_zret (pc := 46) C hr hlk dX3_readBehindSide_46 (by omega) ⟨by repeat (first | exact zsm_rf | assumption | refine zsm_C (by decide) ?_ | refine zsm_I (by decide) ?_ | refine zsm_J ?_ | refine zsm_c (by assumption) (by decide) ?_), by first | omega | (simp only [zuI_1, zuI_2, zuJ_1, zuJ_2, zuJ_3, zuP_1, zuP_2, zuP_3, zuC_1, zuC_2, reduceIte, Nat.reduceEqDiff, false_and, and_false, true_and, and_true, and_self, or_true, true_or, or_false, false_or]; omega)⟩
  · skip
    refine zs_aload_n (pc := 10) C dX3_readBehindSide_10 rfl ?_
    refine zs_iload_n (pc := 11) C dX3_readBehindSide_11 rfl ?_
    refine zVv1 (pc := 12) C dX3_readBehindSide_12 v_X3_212 (c_X3_readJoint hX (by omega) (by omega) (by omega)) (by decide) (by decide) ⟨Nat.zero_le _, Nat.zero_le _⟩ (Nat.le_of_ble_eq_true rfl) (fun G12 hp12 => ?_)
    obtain ⟨hz12, hq12⟩ := hp12
    have tr12_704 := zsm_at hz12 704 (Γ.2.1 w 0) 0 (by decide)
    try simp only [zuI_1, zuI_2, zuJ_1, zuJ_2, zuJ_3, zuP_1, zuP_2, zuP_3, zuC_1, zuC_2, reduceIte, Nat.reduceEqDiff, false_and, and_false, true_and, and_true, and_self, or_true, true_or, or_false, false_or] at tr12_704
    refine zs_iconst (pc := 15) C dX3_readBehindSide_15 (by decide) ?_
    exact zs_zret (pc := 16) C hr hlk dX3_readBehindSide_16 (by omega) ⟨by repeat (first | exact zsm_rf | assumption | refine zsm_C (by decide) ?_ | refine zsm_I (by decide) ?_ | refine zsm_J ?_ | refine zsm_c (by assumption) (by decide) ?_), by first | omega | (simp only [zuI_1, zuI_2, zuJ_1, zuJ_2, zuJ_3, zuP_1, zuP_2, zuP_3, zuC_1, zuC_2, reduceIte, Nat.reduceEqDiff, false_and, and_false, true_and, and_true, and_self, or_true, true_or, or_false, false_or]; omega)⟩

set_option maxHeartbeats 4000000 in
set_option maxRecDepth 100000 in
theorem c_X3_readSide {l : Launch} {Γ : zΓ} {G : zH} {w : Nat}  (hX : zXs Γ) (h1 : 1 ≤ G.1 704 (Γ.2.1 w 0) 0) (h2 : 0 ≤ G.1 402 w 0)  : zMet l Γ yX3_readSide cX3_readSide 1 none 3 [zr 4 w] G (zpv (fun G' => zsm [402, 403, 404, 405, 406, 407, 408, 409, 410, 411, 412, 413, 2025, 206, 207, 2014, 2015, 2016, 2017, 2036, 2037, 2038, 2039, 2040, 2041, 2042, 2043, 609, 610, 611, 612] G G' ∧ (0 ≤ G'.1 402 w 0))) := by
  refine zMet_of RX3 hX (by decide) rfl (Nat.le_of_ble_eq_true rfl) ?_
  intro p e s m args below meth c C hr hlk
  show Z p l e (zrm 3) s m args below meth c Γ 1 0 0 (MQ below (zQc Γ (zpv (fun G' => zsm [402, 403, 404, 405, 406, 407, 408, 409, 410, 411, 412, 413, 2025, 206, 207, 2014, 2015, 2016, 2017, 2036, 2037, 2038, 2039, 2040, 2041, 2042, 2043, 609, 610, 611, 612] G G' ∧ (0 ≤ G'.1 402 w 0)))) args s 0 0 (zA Γ)) 0 [some (zr 4 w)] [] G
  refine zs_aload_n (pc := 0) C dX3_readSide_0 rfl ?_
  refine zs_bipush (pc := 1) C dX3_readSide_1 (by decide) (by decide) ?_
  refine zVip1 (pc := 3) C dX3_readSide_3 v_X3_117 (c_X3_isSign hX ) (by decide) (by decide) ⟨Nat.zero_le _, Nat.zero_le _⟩ (Nat.le_of_ble_eq_true rfl) (fun x3 l3 u3 hp3 => ?_)
  have hq3 := hp3
  refine zs_if_eq (tgt := 16) (pc := 6) C dX3_readSide_6 (by decide) (fun h6 => ?_) (fun h6 => ?_)
  · skip
    refine zs_aload_n (pc := 16) C dX3_readSide_16 rfl ?_
    refine zs_geti (r := 405) (pc := 17) C dX3_readSide_17 w_X3_70 f_4_5 rfl (r_405 0) (fun v17 e17 l17 u17 => ?_)
    refine zs_bipush (pc := 20) C dX3_readSide_20 (by decide) (by decide) ?_
    refine zs_icmp_ne (tgt := 47) (pc := 22) C dX3_readSide_22 (by decide) (fun h22 => ?_) (fun h22 => ?_)
    · skip
      refine zs_aload_n (pc := 47) C dX3_readSide_47 rfl ?_
      refine zs_geti (r := 403) (pc := 48) C dX3_readSide_48 w_X3_54 f_4_3 rfl (r_403 0) (fun v48 e48 l48 u48 => ?_)
      refine zs_iconst (pc := 51) C dX3_readSide_51 (by decide) ?_
      refine zs_icmp_ne (tgt := 82) (pc := 52) C dX3_readSide_52 (by decide) (fun h52 => ?_) (fun h52 => ?_)
      · skip
        refine zs_aload_n (pc := 82) C dX3_readSide_82 rfl ?_
        refine zs_geti (r := 405) (pc := 83) C dX3_readSide_83 w_X3_70 f_4_5 rfl (r_405 0) (fun v83 e83 l83 u83 => ?_)
        refine zs_bipush (pc := 86) C dX3_readSide_86 (by decide) (by decide) ?_
        refine zs_icmp_lt (tgt := 106) (pc := 88) C dX3_readSide_88 (by decide) (fun h88 => ?_) (fun h88 => ?_)
        · skip
          refine zs_aload_n (pc := 106) C dX3_readSide_106 rfl ?_
          refine zs_iconst (pc := 107) C dX3_readSide_107 (by decide) ?_
          refine zVv1 (pc := 108) C dX3_readSide_108 v_X3_114 (c_X3_fail hX (by omega) (by omega)) (by decide) (by decide) ⟨Nat.zero_le _, Nat.zero_le _⟩ (Nat.le_of_ble_eq_true rfl) (fun G108 hp108 => ?_)
          obtain ⟨hz108, hq108⟩ := hp108
          have tr108_704 := zsm_at hz108 704 (Γ.2.1 w 0) 0 (by decide)
          try simp only [zuI_1, zuI_2, zuJ_1, zuJ_2, zuJ_3, zuP_1, zuP_2, zuP_3, zuC_1, zuC_2, reduceIte, Nat.reduceEqDiff, false_and, and_false, true_and, and_true, and_self, or_true, true_or, or_false, false_or] at tr108_704
          have tr108_402 := zsm_at hz108 402 w 0 (by decide)
          try simp only [zuI_1, zuI_2, zuJ_1, zuJ_2, zuJ_3, zuP_1, zuP_2, zuP_3, zuC_1, zuC_2, reduceIte, Nat.reduceEqDiff, false_and, and_false, true_and, and_true, and_self, or_true, true_or, or_false, false_or] at tr108_402
          exact zs_vret (pc := 111) C hr hlk dX3_readSide_111 ⟨by repeat (first | exact zsm_rf | assumption | refine zsm_C (by decide) ?_ | refine zsm_I (by decide) ?_ | refine zsm_J ?_ | refine zsm_c (by assumption) (by decide) ?_), by first | omega | (simp only [zuI_1, zuI_2, zuJ_1, zuJ_2, zuJ_3, zuP_1, zuP_2, zuP_3, zuC_1, zuC_2, reduceIte, Nat.reduceEqDiff, false_and, and_false, true_and, and_true, and_self, or_true, true_or, or_false, false_or]; omega)⟩
        · skip
          refine zs_aload_n (pc := 91) C dX3_readSide_91 rfl ?_
          refine zs_iconst (pc := 92) C dX3_readSide_92 (by decide) ?_
          refine zs_aload_n (pc := 93) C dX3_readSide_93 rfl ?_
          refine zs_geti (r := 405) (pc := 94) C dX3_readSide_94 w_X3_70 f_4_5 rfl (r_405 0) (fun v94 e94 l94 u94 => ?_)
          refine zs_bipush (pc := 97) C dX3_readSide_97 (by decide) (by decide) ?_
          first | refine zs_isub (pc := 99) C dX3_readSide_99 (by omega) ?_ | refine zs_isubF (pc := 99) C dX3_readSide_99 (fun z99 hz991 hz992 => ?_)
          refine zVv2 (pc := 100) C dX3_readSide_100 v_X3_203 (c_X3_writeSide hX (by omega) (by omega)) (by decide) (by decide) ⟨Nat.zero_le _, Nat.zero_le _⟩ (Nat.le_of_ble_eq_true rfl) (fun G100 hp100 => ?_)
          obtain ⟨hz100, hq100⟩ := hp100
          have tr100_704 := zsm_at hz100 704 (Γ.2.1 w 0) 0 (by decide)
          try simp only [zuI_1, zuI_2, zuJ_1, zuJ_2, zuJ_3, zuP_1, zuP_2, zuP_3, zuC_1, zuC_2, reduceIte, Nat.reduceEqDiff, false_and, and_false, true_and, and_true, and_self, or_true, true_or, or_false, false_or] at tr100_704
          refine zs_goto (tgt := 111) (pc := 103) C dX3_readSide_103 (by decide) ?_
          exact zs_vret (pc := 111) C hr hlk dX3_readSide_111 ⟨by repeat (first | exact zsm_rf | assumption | refine zsm_C (by decide) ?_ | refine zsm_I (by decide) ?_ | refine zsm_J ?_ | refine zsm_c (by assumption) (by decide) ?_), by first | omega | (simp only [zuI_1, zuI_2, zuJ_1, zuJ_2, zuJ_3, zuP_1, zuP_2, zuP_3, zuC_1, zuC_2, reduceIte, Nat.reduceEqDiff, false_and, and_false, true_and, and_true, and_self, or_true, true_or, or_false, false_or]; omega)⟩
      · skip
        refine zs_aload_n (pc := 55) C dX3_readSide_55 rfl ?_
        refine zs_geti (r := 404) (pc := 56) C dX3_readSide_56 w_X3_68 f_4_4 rfl (r_404 0) (fun v56 e56 l56 u56 => ?_)
        refine zs_sipush (pc := 59) C dX3_readSide_59 (by decide) (by decide) ?_
        refine zs_icmp_le (tgt := 70) (pc := 62) C dX3_readSide_62 (by decide) (fun h62 => ?_) (fun h62 => ?_)
        · skip
          refine zs_aload_n (pc := 70) C dX3_readSide_70 rfl ?_
          refine zs_iconst (pc := 71) C dX3_readSide_71 (by decide) ?_
          refine zs_aload_n (pc := 72) C dX3_readSide_72 rfl ?_
          refine zs_geti (r := 404) (pc := 73) C dX3_readSide_73 w_X3_68 f_4_4 rfl (r_404 0) (fun v73 e73 l73 u73 => ?_)
          refine zVv2 (pc := 76) C dX3_readSide_76 v_X3_203 (c_X3_writeSide hX (by omega) (by omega)) (by decide) (by decide) ⟨Nat.zero_le _, Nat.zero_le _⟩ (Nat.le_of_ble_eq_true rfl) (fun G76 hp76 => ?_)
          obtain ⟨hz76, hq76⟩ := hp76
          have tr76_704 := zsm_at hz76 704 (Γ.2.1 w 0) 0 (by decide)
          try simp only [zuI_1, zuI_2, zuJ_1, zuJ_2, zuJ_3, zuP_1, zuP_2, zuP_3, zuC_1, zuC_2, reduceIte, Nat.reduceEqDiff, false_and, and_false, true_and, and_true, and_self, or_true, true_or, or_false, false_or] at tr76_704
          refine zs_goto (tgt := 111) (pc := 79) C dX3_readSide_79 (by decide) ?_
          exact zs_vret (pc := 111) C hr hlk dX3_readSide_111 ⟨by repeat (first | exact zsm_rf | assumption | refine zsm_C (by decide) ?_ | refine zsm_I (by decide) ?_ | refine zsm_J ?_ | refine zsm_c (by assumption) (by decide) ?_), by first | omega | (simp only [zuI_1, zuI_2, zuJ_1, zuJ_2, zuJ_3, zuP_1, zuP_2, zuP_3, zuC_1, zuC_2, reduceIte, Nat.reduceEqDiff, false_and, and_false, true_and, and_true, and_self, or_true, true_or, or_false, false_or]; omega)⟩
        · skip
          refine zs_aload_n (pc := 65) C dX3_readSide_65 rfl ?_
          refine zs_iconst (pc := 66) C dX3_readSide_66 (by decide) ?_
          refine zVv1 (pc := 67) C dX3_readSide_67 v_X3_114 (c_X3_fail hX (by omega) (by omega)) (by decide) (by decide) ⟨Nat.zero_le _, Nat.zero_le _⟩ (Nat.le_of_ble_eq_true rfl) (fun G67 hp67 => ?_)
          obtain ⟨hz67, hq67⟩ := hp67
          have tr67_704 := zsm_at hz67 704 (Γ.2.1 w 0) 0 (by decide)
          try simp only [zuI_1, zuI_2, zuJ_1, zuJ_2, zuJ_3, zuP_1, zuP_2, zuP_3, zuC_1, zuC_2, reduceIte, Nat.reduceEqDiff, false_and, and_false, true_and, and_true, and_self, or_true, true_or, or_false, false_or] at tr67_704
          have tr67_402 := zsm_at hz67 402 w 0 (by decide)
          try simp only [zuI_1, zuI_2, zuJ_1, zuJ_2, zuJ_3, zuP_1, zuP_2, zuP_3, zuC_1, zuC_2, reduceIte, Nat.reduceEqDiff, false_and, and_false, true_and, and_true, and_self, or_true, true_or, or_false, false_or] at tr67_402
          refine zs_aload_n (pc := 70) C dX3_readSide_70 rfl ?_
          refine zs_iconst (pc := 71) C dX3_readSide_71 (by decide) ?_
          refine zs_aload_n (pc := 72) C dX3_readSide_72 rfl ?_
          refine zs_geti (r := 404) (pc := 73) C dX3_readSide_73 w_X3_68 f_4_4 rfl (r_404 0) (fun v73 e73 l73 u73 => ?_)
          refine zVv2 (pc := 76) C dX3_readSide_76 v_X3_203 (c_X3_writeSide hX (by omega) (by omega)) (by decide) (by decide) ⟨Nat.zero_le _, Nat.zero_le _⟩ (Nat.le_of_ble_eq_true rfl) (fun G76 hp76 => ?_)
          obtain ⟨hz76, hq76⟩ := hp76
          have tr76_704 := zsm_at hz76 704 (Γ.2.1 w 0) 0 (by decide)
          try simp only [zuI_1, zuI_2, zuJ_1, zuJ_2, zuJ_3, zuP_1, zuP_2, zuP_3, zuC_1, zuC_2, reduceIte, Nat.reduceEqDiff, false_and, and_false, true_and, and_true, and_self, or_true, true_or, or_false, false_or] at tr76_704
          refine zs_goto (tgt := 111) (pc := 79) C dX3_readSide_79 (by decide) ?_
          exact zs_vret (pc := 111) C hr hlk dX3_readSide_111 ⟨by repeat (first | exact zsm_rf | assumption | refine zsm_C (by decide) ?_ | refine zsm_I (by decide) ?_ | refine zsm_J ?_ | refine zsm_c (by assumption) (by decide) ?_), by first | omega | (simp only [zuI_1, zuI_2, zuJ_1, zuJ_2, zuJ_3, zuP_1, zuP_2, zuP_3, zuC_1, zuC_2, reduceIte, Nat.reduceEqDiff, false_and, and_false, true_and, and_true, and_self, or_true, true_or, or_false, false_or]; omega)⟩
    · skip
      refine zs_aload_n (pc := 25) C dX3_readSide_25 rfl ?_
      refine zs_getz (r := 413) (pc := 26) C dX3_readSide_26 w_X3_175 f_4_13 rfl (r_413 0) (fun v26 e26 l26 u26 => ?_)
      refine zs_if_eq (tgt := 47) (pc := 29) C dX3_readSide_29 (by decide) (fun h29 => ?_) (fun h29 => ?_)
      · skip
        refine zs_aload_n (pc := 47) C dX3_readSide_47 rfl ?_
        refine zs_geti (r := 403) (pc := 48) C dX3_readSide_48 w_X3_54 f_4_3 rfl (r_403 0) (fun v48 e48 l48 u48 => ?_)
        refine zs_iconst (pc := 51) C dX3_readSide_51 (by decide) ?_
        refine zs_icmp_ne (tgt := 82) (pc := 52) C dX3_readSide_52 (by decide) (fun h52 => ?_) (fun h52 => ?_)
        · skip
          refine zs_aload_n (pc := 82) C dX3_readSide_82 rfl ?_
          refine zs_geti (r := 405) (pc := 83) C dX3_readSide_83 w_X3_70 f_4_5 rfl (r_405 0) (fun v83 e83 l83 u83 => ?_)
          refine zs_bipush (pc := 86) C dX3_readSide_86 (by decide) (by decide) ?_
          refine zs_icmp_lt (tgt := 106) (pc := 88) C dX3_readSide_88 (by decide) (fun h88 => ?_) (fun h88 => ?_)
          · skip
            refine zs_aload_n (pc := 106) C dX3_readSide_106 rfl ?_
            refine zs_iconst (pc := 107) C dX3_readSide_107 (by decide) ?_
            refine zVv1 (pc := 108) C dX3_readSide_108 v_X3_114 (c_X3_fail hX (by omega) (by omega)) (by decide) (by decide) ⟨Nat.zero_le _, Nat.zero_le _⟩ (Nat.le_of_ble_eq_true rfl) (fun G108 hp108 => ?_)
            obtain ⟨hz108, hq108⟩ := hp108
            have tr108_704 := zsm_at hz108 704 (Γ.2.1 w 0) 0 (by decide)
            try simp only [zuI_1, zuI_2, zuJ_1, zuJ_2, zuJ_3, zuP_1, zuP_2, zuP_3, zuC_1, zuC_2, reduceIte, Nat.reduceEqDiff, false_and, and_false, true_and, and_true, and_self, or_true, true_or, or_false, false_or] at tr108_704
            have tr108_402 := zsm_at hz108 402 w 0 (by decide)
            try simp only [zuI_1, zuI_2, zuJ_1, zuJ_2, zuJ_3, zuP_1, zuP_2, zuP_3, zuC_1, zuC_2, reduceIte, Nat.reduceEqDiff, false_and, and_false, true_and, and_true, and_self, or_true, true_or, or_false, false_or] at tr108_402
            exact zs_vret (pc := 111) C hr hlk dX3_readSide_111 ⟨by repeat (first | exact zsm_rf | assumption | refine zsm_C (by decide) ?_ | refine zsm_I (by decide) ?_ | refine zsm_J ?_ | refine zsm_c (by assumption) (by decide) ?_), by first | omega | (simp only [zuI_1, zuI_2, zuJ_1, zuJ_2, zuJ_3, zuP_1, zuP_2, zuP_3, zuC_1, zuC_2, reduceIte, Nat.reduceEqDiff, false_and, and_false, true_and, and_true, and_self, or_true, true_or, or_false, false_or]; omega)⟩
          · skip
            refine zs_aload_n (pc := 91) C dX3_readSide_91 rfl ?_
            refine zs_iconst (pc := 92) C dX3_readSide_92 (by decide) ?_
            refine zs_aload_n (pc := 93) C dX3_readSide_93 rfl ?_
            refine zs_geti (r := 405) (pc := 94) C dX3_readSide_94 w_X3_70 f_4_5 rfl (r_405 0) (fun v94 e94 l94 u94 => ?_)
            refine zs_bipush (pc := 97) C dX3_readSide_97 (by decide) (by decide) ?_
            first | refine zs_isub (pc := 99) C dX3_readSide_99 (by omega) ?_ | refine zs_isubF (pc := 99) C dX3_readSide_99 (fun z99 hz991 hz992 => ?_)
            refine zVv2 (pc := 100) C dX3_readSide_100 v_X3_203 (c_X3_writeSide hX (by omega) (by omega)) (by decide) (by decide) ⟨Nat.zero_le _, Nat.zero_le _⟩ (Nat.le_of_ble_eq_true rfl) (fun G100 hp100 => ?_)
            obtain ⟨hz100, hq100⟩ := hp100
            have tr100_704 := zsm_at hz100 704 (Γ.2.1 w 0) 0 (by decide)
            try simp only [zuI_1, zuI_2, zuJ_1, zuJ_2, zuJ_3, zuP_1, zuP_2, zuP_3, zuC_1, zuC_2, reduceIte, Nat.reduceEqDiff, false_and, and_false, true_and, and_true, and_self, or_true, true_or, or_false, false_or] at tr100_704
            refine zs_goto (tgt := 111) (pc := 103) C dX3_readSide_103 (by decide) ?_
            exact zs_vret (pc := 111) C hr hlk dX3_readSide_111 ⟨by repeat (first | exact zsm_rf | assumption | refine zsm_C (by decide) ?_ | refine zsm_I (by decide) ?_ | refine zsm_J ?_ | refine zsm_c (by assumption) (by decide) ?_), by first | omega | (simp only [zuI_1, zuI_2, zuJ_1, zuJ_2, zuJ_3, zuP_1, zuP_2, zuP_3, zuC_1, zuC_2, reduceIte, Nat.reduceEqDiff, false_and, and_false, true_and, and_true, and_self, or_true, true_or, or_false, false_or]; omega)⟩
        · skip
          refine zs_aload_n (pc := 55) C dX3_readSide_55 rfl ?_
          refine zs_geti (r := 404) (pc := 56) C dX3_readSide_56 w_X3_68 f_4_4 rfl (r_404 0) (fun v56 e56 l56 u56 => ?_)
          refine zs_sipush (pc := 59) C dX3_readSide_59 (by decide) (by decide) ?_
          refine zs_icmp_le (tgt := 70) (pc := 62) C dX3_readSide_62 (by decide) (fun h62 => ?_) (fun h62 => ?_)
          · skip
            refine zs_aload_n (pc := 70) C dX3_readSide_70 rfl ?_
            refine zs_iconst (pc := 71) C dX3_readSide_71 (by decide) ?_
            refine zs_aload_n (pc := 72) C dX3_readSide_72 rfl ?_
            refine zs_geti (r := 404) (pc := 73) C dX3_readSide_73 w_X3_68 f_4_4 rfl (r_404 0) (fun v73 e73 l73 u73 => ?_)
            refine zVv2 (pc := 76) C dX3_readSide_76 v_X3_203 (c_X3_writeSide hX (by omega) (by omega)) (by decide) (by decide) ⟨Nat.zero_le _, Nat.zero_le _⟩ (Nat.le_of_ble_eq_true rfl) (fun G76 hp76 => ?_)
            obtain ⟨hz76, hq76⟩ := hp76
            have tr76_704 := zsm_at hz76 704 (Γ.2.1 w 0) 0 (by decide)
            try simp only [zuI_1, zuI_2, zuJ_1, zuJ_2, zuJ_3, zuP_1, zuP_2, zuP_3, zuC_1, zuC_2, reduceIte, Nat.reduceEqDiff, false_and, and_false, true_and, and_true, and_self, or_true, true_or, or_false, false_or] at tr76_704
            refine zs_goto (tgt := 111) (pc := 79) C dX3_readSide_79 (by decide) ?_
            exact zs_vret (pc := 111) C hr hlk dX3_readSide_111 ⟨by repeat (first | exact zsm_rf | assumption | refine zsm_C (by decide) ?_ | refine zsm_I (by decide) ?_ | refine zsm_J ?_ | refine zsm_c (by assumption) (by decide) ?_), by first | omega | (simp only [zuI_1, zuI_2, zuJ_1, zuJ_2, zuJ_3, zuP_1, zuP_2, zuP_3, zuC_1, zuC_2, reduceIte, Nat.reduceEqDiff, false_and, and_false, true_and, and_true, and_self, or_true, true_or, or_false, false_or]; omega)⟩
          · skip
            refine zs_aload_n (pc := 65) C dX3_readSide_65 rfl ?_
            refine zs_iconst (pc := 66) C dX3_readSide_66 (by decide) ?_
            refine zVv1 (pc := 67) C dX3_readSide_67 v_X3_114 (c_X3_fail hX (by omega) (by omega)) (by decide) (by decide) ⟨Nat.zero_le _, Nat.zero_le _⟩ (Nat.le_of_ble_eq_true rfl) (fun G67 hp67 => ?_)
            obtain ⟨hz67, hq67⟩ := hp67
            have tr67_704 := zsm_at hz67 704 (Γ.2.1 w 0) 0 (by decide)
            try simp only [zuI_1, zuI_2, zuJ_1, zuJ_2, zuJ_3, zuP_1, zuP_2, zuP_3, zuC_1, zuC_2, reduceIte, Nat.reduceEqDiff, false_and, and_false, true_and, and_true, and_self, or_true, true_or, or_false, false_or] at tr67_704
            have tr67_402 := zsm_at hz67 402 w 0 (by decide)
            try simp only [zuI_1, zuI_2, zuJ_1, zuJ_2, zuJ_3, zuP_1, zuP_2, zuP_3, zuC_1, zuC_2, reduceIte, Nat.reduceEqDiff, false_and, and_false, true_and, and_true, and_self, or_true, true_or, or_false, false_or] at tr67_402
            refine zs_aload_n (pc := 70) C dX3_readSide_70 rfl ?_
            refine zs_iconst (pc := 71) C dX3_readSide_71 (by decide) ?_
            refine zs_aload_n (pc := 72) C dX3_readSide_72 rfl ?_
            refine zs_geti (r := 404) (pc := 73) C dX3_readSide_73 w_X3_68 f_4_4 rfl (r_404 0) (fun v73 e73 l73 u73 => ?_)
            refine zVv2 (pc := 76) C dX3_readSide_76 v_X3_203 (c_X3_writeSide hX (by omega) (by omega)) (by decide) (by decide) ⟨Nat.zero_le _, Nat.zero_le _⟩ (Nat.le_of_ble_eq_true rfl) (fun G76 hp76 => ?_)
            obtain ⟨hz76, hq76⟩ := hp76
            have tr76_704 := zsm_at hz76 704 (Γ.2.1 w 0) 0 (by decide)
            try simp only [zuI_1, zuI_2, zuJ_1, zuJ_2, zuJ_3, zuP_1, zuP_2, zuP_3, zuC_1, zuC_2, reduceIte, Nat.reduceEqDiff, false_and, and_false, true_and, and_true, and_self, or_true, true_or, or_false, false_or] at tr76_704
            refine zs_goto (tgt := 111) (pc := 79) C dX3_readSide_79 (by decide) ?_
            exact zs_vret (pc := 111) C hr hlk dX3_readSide_111 ⟨by repeat (first | exact zsm_rf | assumption | refine zsm_C (by decide) ?_ | refine zsm_I (by decide) ?_ | refine zsm_J ?_ | refine zsm_c (by assumption) (by decide) ?_), by first | omega | (simp only [zuI_1, zuI_2, zuJ_1, zuJ_2, zuJ_3, zuP_1, zuP_2, zuP_3, zuC_1, zuC_2, reduceIte, Nat.reduceEqDiff, false_and, and_false, true_and, and_true, and_self, or_true, true_or, or_false, false_or]; omega)⟩
      · skip
        refine zs_aload_n (pc := 32) C dX3_readSide_32 rfl ?_
        refine zVi0 (pc := 33) C dX3_readSide_33 v_X3_197 (c_X3_countKnot hX (by omega) (by omega)) (by decide) (by decide) ⟨Nat.zero_le _, Nat.zero_le _⟩ (Nat.le_of_ble_eq_true rfl) (fun x33 G33 l33 u33 hp33 => ?_)
        obtain ⟨hz33, hq33⟩ := hp33
        have tr33_704 := zsm_at hz33 704 (Γ.2.1 w 0) 0 (by decide)
        try simp only [zuI_1, zuI_2, zuJ_1, zuJ_2, zuJ_3, zuP_1, zuP_2, zuP_3, zuC_1, zuC_2, reduceIte, Nat.reduceEqDiff, false_and, and_false, true_and, and_true, and_self, or_true, true_or, or_false, false_or] at tr33_704
        refine zs_if_eq (tgt := 111) (pc := 36) C dX3_readSide_36 (by decide) (fun h36 => ?_) (fun h36 => ?_)
        · skip
          exact zs_vret (pc := 111) C hr hlk dX3_readSide_111 ⟨by repeat (first | exact zsm_rf | assumption | refine zsm_C (by decide) ?_ | refine zsm_I (by decide) ?_ | refine zsm_J ?_ | refine zsm_c (by assumption) (by decide) ?_), by first | omega | (simp only [zuI_1, zuI_2, zuJ_1, zuJ_2, zuJ_3, zuP_1, zuP_2, zuP_3, zuC_1, zuC_2, reduceIte, Nat.reduceEqDiff, false_and, and_false, true_and, and_true, and_self, or_true, true_or, or_false, false_or]; omega)⟩
        · skip
          refine zs_aload_n (pc := 39) C dX3_readSide_39 rfl ?_
          refine zs_iconst (pc := 40) C dX3_readSide_40 (by decide) ?_
          refine zVv1 (pc := 41) C dX3_readSide_41 v_X3_200 (c_X3_push hX (by omega) (by omega) (by omega)) (by decide) (by decide) ⟨Nat.zero_le _, Nat.zero_le _⟩ (Nat.le_of_ble_eq_true rfl) (fun G41 hp41 => ?_)
          obtain ⟨hz41, hq41⟩ := hp41
          have tr41_704 := zsm_at hz41 704 (Γ.2.1 w 0) 0 (by decide)
          try simp only [zuI_1, zuI_2, zuJ_1, zuJ_2, zuJ_3, zuP_1, zuP_2, zuP_3, zuC_1, zuC_2, reduceIte, Nat.reduceEqDiff, false_and, and_false, true_and, and_true, and_self, or_true, true_or, or_false, false_or] at tr41_704
          refine zs_goto (tgt := 111) (pc := 44) C dX3_readSide_44 (by decide) ?_
          exact zs_vret (pc := 111) C hr hlk dX3_readSide_111 ⟨by repeat (first | exact zsm_rf | assumption | refine zsm_C (by decide) ?_ | refine zsm_I (by decide) ?_ | refine zsm_J ?_ | refine zsm_c (by assumption) (by decide) ?_), by first | omega | (simp only [zuI_1, zuI_2, zuJ_1, zuJ_2, zuJ_3, zuP_1, zuP_2, zuP_3, zuC_1, zuC_2, reduceIte, Nat.reduceEqDiff, false_and, and_false, true_and, and_true, and_self, or_true, true_or, or_false, false_or]; omega)⟩
  · skip
    refine zs_aload_n (pc := 9) C dX3_readSide_9 rfl ?_
    refine zVv0 (pc := 10) C dX3_readSide_10 v_X3_194 (c_X3_readOpen hX (by omega) (by omega)) (by decide) (by decide) ⟨Nat.zero_le _, Nat.zero_le _⟩ (Nat.le_of_ble_eq_true rfl) (fun G10 hp10 => ?_)
    obtain ⟨hz10, hq10⟩ := hp10
    have tr10_704 := zsm_at hz10 704 (Γ.2.1 w 0) 0 (by decide)
    try simp only [zuI_1, zuI_2, zuJ_1, zuJ_2, zuJ_3, zuP_1, zuP_2, zuP_3, zuC_1, zuC_2, reduceIte, Nat.reduceEqDiff, false_and, and_false, true_and, and_true, and_self, or_true, true_or, or_false, false_or] at tr10_704
    refine zs_goto (tgt := 111) (pc := 13) C dX3_readSide_13 (by decide) ?_
    exact zs_vret (pc := 111) C hr hlk dX3_readSide_111 ⟨by repeat (first | exact zsm_rf | assumption | refine zsm_C (by decide) ?_ | refine zsm_I (by decide) ?_ | refine zsm_J ?_ | refine zsm_c (by assumption) (by decide) ?_), by first | omega | (simp only [zuI_1, zuI_2, zuJ_1, zuJ_2, zuJ_3, zuP_1, zuP_2, zuP_3, zuC_1, zuC_2, reduceIte, Nat.reduceEqDiff, false_and, and_false, true_and, and_true, and_self, or_true, true_or, or_false, false_or]; omega)⟩

set_option maxHeartbeats 4000000 in
set_option maxRecDepth 100000 in
theorem c_X3_readE {l : Launch} {Γ : zΓ} {G : zH} {w : Nat} {k : Int} (hX : zXs Γ) (h1 : 1 ≤ G.1 704 (Γ.2.1 w 0) 0) (h2 : 0 ≤ G.1 402 w 0)  : zMet l Γ yX3_readE cX3_readE 4 none 4 [zr 4 w, zi k] G (zpv (fun G' => zsm [402, 403, 404, 405, 406, 407, 408, 409, 410, 411, 412, 413, 2025, 206, 207, 2014, 2015, 2016, 2017, 2036, 2037, 2038, 2039, 2040, 2041, 2042, 2043, 609, 610, 611, 612] G G' ∧ (0 ≤ G'.1 402 w 0))) := by
  refine zMet_of RX3 hX (by decide) rfl (Nat.le_of_ble_eq_true rfl) ?_
  intro p e s m args below meth c C hr hlk
  show Z p l e (zrm 4) s m args below meth c Γ 4 0 0 (MQ below (zQc Γ (zpv (fun G' => zsm [402, 403, 404, 405, 406, 407, 408, 409, 410, 411, 412, 413, 2025, 206, 207, 2014, 2015, 2016, 2017, 2036, 2037, 2038, 2039, 2040, 2041, 2042, 2043, 609, 610, 611, 612] G G' ∧ (0 ≤ G'.1 402 w 0)))) args s 0 0 (zA Γ)) 0 [some (zr 4 w), some (zi k), none, none] [] G
  refine zs_loc 1 rfl (fun ha1 hb1 => ?_)
  refine zs_aload_n (pc := 0) C dX3_readE_0 rfl ?_
  refine zs_iconst (pc := 1) C dX3_readE_1 (by decide) ?_
  refine zs_puti (r := 410) (pc := 2) C dX3_readE_2 w_X3_165 f_4_10 rfl (r_410 0) (by omega) ?_
  refine zs_aload_n (pc := 5) C dX3_readE_5 rfl ?_
  refine zs_iconst (pc := 6) C dX3_readE_6 (by decide) ?_
  refine zs_puti (r := 411) (pc := 7) C dX3_readE_7 w_X3_168 f_4_11 rfl (r_411 0) (by omega) ?_
  refine zs_aload_n (pc := 10) C dX3_readE_10 rfl ?_
  refine zs_iconst (pc := 11) C dX3_readE_11 (by decide) ?_
  refine zs_putz (r := 412) (pc := 12) C dX3_readE_12 w_X3_171 f_4_12 rfl (r_412 0) (by omega) (by omega) ?_
  refine zs_aload_n (pc := 15) C dX3_readE_15 rfl ?_
  refine zs_iconst (pc := 16) C dX3_readE_16 (by decide) ?_
  refine zs_putz (r := 413) (pc := 17) C dX3_readE_17 w_X3_175 f_4_13 rfl (r_413 0) (by omega) (by omega) ?_
  refine zs_aload_n (pc := 20) C dX3_readE_20 rfl ?_
  refine zs_getd (r := 401) (pc := 21) C dX3_readE_21 w_X3_21 f_4_1 (by decide) rfl (fun v21 e21 t21 => ?_)
  try simp only [zuI_1, zuI_2, zuJ_1, zuJ_2, zuJ_3, zuP_1, zuP_2, zuP_3, zuC_1, zuC_2, reduceIte, Nat.reduceEqDiff, false_and, and_false, true_and, and_true, and_self, or_true, true_or, or_false, false_or] at e21
  subst e21
  refine zs_getf (pc := 24) C dX3_readE_24 w_X3_148 f_6_0 (by decide) ?_
  refine zs_iload_n (pc := 27) C dX3_readE_27 rfl ?_
  refine zVv1 (pc := 28) C dX3_readE_28 v_X3_178 (c_X1_begin hX ) (by decide) (by decide) ⟨Nat.zero_le _, Nat.zero_le _⟩ (Nat.le_of_ble_eq_true rfl) (fun G28 hp28 => ?_)
  obtain ⟨hz28, hq28⟩ := hp28
  try simp only [zuI_1, zuI_2, zuJ_1, zuJ_2, zuJ_3, zuP_1, zuP_2, zuP_3, zuC_1, zuC_2, reduceIte, Nat.reduceEqDiff, false_and, and_false, true_and, and_true, and_self, or_true, true_or, or_false, false_or] at hq28
  have tr28_704 := zsm_at hz28 704 (Γ.2.1 w 0) 0 (by decide)
  try simp only [zuI_1, zuI_2, zuJ_1, zuJ_2, zuJ_3, zuP_1, zuP_2, zuP_3, zuC_1, zuC_2, reduceIte, Nat.reduceEqDiff, false_and, and_false, true_and, and_true, and_self, or_true, true_or, or_false, false_or] at tr28_704
  have tr28_402 := zsm_at hz28 402 w 0 (by decide)
  try simp only [zuI_1, zuI_2, zuJ_1, zuJ_2, zuJ_3, zuP_1, zuP_2, zuP_3, zuC_1, zuC_2, reduceIte, Nat.reduceEqDiff, false_and, and_false, true_and, and_true, and_self, or_true, true_or, or_false, false_or] at tr28_402
  have tr28_407 := zsm_at hz28 407 w 0 (by decide)
  try simp only [zuI_1, zuI_2, zuJ_1, zuJ_2, zuJ_3, zuP_1, zuP_2, zuP_3, zuC_1, zuC_2, reduceIte, Nat.reduceEqDiff, false_and, and_false, true_and, and_true, and_self, or_true, true_or, or_false, false_or] at tr28_407
  refine zs_iconst (pc := 31) C dX3_readE_31 (by decide) ?_
  refine zs_istore_n (pc := 32) C dX3_readE_32 (by decide) ?_
  dsimp only [zset, zclr, znone]
  refine zs_iconst (pc := 33) C dX3_readE_33 (by decide) ?_
  refine zs_istore_n (pc := 34) C dX3_readE_34 (by decide) ?_
  dsimp only [zset, zclr, znone]
  have L35 : ∀ (nn : Nat) (x2 x3 : Int) (G1 : zH), (0 ≤ x3 ∧ x3 ≤ 700) → (1 ≤ G1.1 704 (Γ.2.1 w 0) 0) → (0 ≤ G1.1 402 w 0) → (zsm [402, 403, 404, 405, 406, 407, 408, 409, 410, 411, 412, 413, 2025, 206, 207, 2014, 2015, 2016, 2017, 2036, 2037, 2038, 2039, 2040, 2041, 2042, 2043, 609, 610, 611, 612] G G1) → (700 - x3).toNat < nn → Z p l e (zrm 4) s m args below meth c Γ 4 0 0 (MQ below (zQc Γ (zpv (fun G' => zsm [402, 403, 404, 405, 406, 407, 408, 409, 410, 411, 412, 413, 2025, 206, 207, 2014, 2015, 2016, 2017, 2036, 2037, 2038, 2039, 2040, 2041, 2042, 2043, 609, 610, 611, 612] G G' ∧ (0 ≤ G'.1 402 w 0)))) args s 0 0 (zA Γ)) 35 [some (zr 4 w), some (zi k), some (zi x2), some (zi x3)] [] G1 := by
    intro nn
    induction nn with
    | zero => intro x2 x3 G1 h35_0 h35_1 h35_2 h35_3 hm; exact absurd hm (Nat.not_lt_zero _)
    | succ nn ih35 =>
      intro x2 x3 G1 h35_0 h35_1 h35_2 h35_3 hm35
      refine zs_iload_n (pc := 35) C dX3_readE_35 rfl ?_
      refine zs_sipush (pc := 36) C dX3_readE_36 (by decide) (by decide) ?_
      refine zs_icmp_ge (tgt := 78) (pc := 39) C dX3_readE_39 (by decide) (fun h39 => ?_) (fun h39 => ?_)
      · skip
        refine zs_aload_n (pc := 78) C dX3_readE_78 rfl ?_
        refine zs_iconst (pc := 79) C dX3_readE_79 (by decide) ?_
        refine zVv1 (pc := 80) C dX3_readE_80 v_X3_188 (c_X3_release hX (by omega) (by omega)) (by decide) (by decide) ⟨Nat.zero_le _, Nat.zero_le _⟩ (Nat.le_of_ble_eq_true rfl) (fun G80 hp80 => ?_)
        obtain ⟨hz80, hq80⟩ := hp80
        have tr80_704 := zsm_at hz80 704 (Γ.2.1 w 0) 0 (by decide)
        try simp only [zuI_1, zuI_2, zuJ_1, zuJ_2, zuJ_3, zuP_1, zuP_2, zuP_3, zuC_1, zuC_2, reduceIte, Nat.reduceEqDiff, false_and, and_false, true_and, and_true, and_self, or_true, true_or, or_false, false_or] at tr80_704
        have tr80_402 := zsm_at hz80 402 w 0 (by decide)
        try simp only [zuI_1, zuI_2, zuJ_1, zuJ_2, zuJ_3, zuP_1, zuP_2, zuP_3, zuC_1, zuC_2, reduceIte, Nat.reduceEqDiff, false_and, and_false, true_and, and_true, and_self, or_true, true_or, or_false, false_or] at tr80_402
        have tr80_407 := zsm_at hz80 407 w 0 (by decide)
        try simp only [zuI_1, zuI_2, zuJ_1, zuJ_2, zuJ_3, zuP_1, zuP_2, zuP_3, zuC_1, zuC_2, reduceIte, Nat.reduceEqDiff, false_and, and_false, true_and, and_true, and_self, or_true, true_or, or_false, false_or] at tr80_407
        refine zs_aload_n (pc := 83) C dX3_readE_83 rfl ?_
        refine zs_getd (r := 401) (pc := 84) C dX3_readE_84 w_X3_21 f_4_1 (by decide) rfl (fun v84 e84 t84 => ?_)
        try simp only [h35_3.2, hz80.2, zuI_1, zuI_2, zuJ_1, zuJ_2, zuJ_3, zuP_1, zuP_2, zuP_3, zuC_1, zuC_2, reduceIte, Nat.reduceEqDiff, false_and, and_false, true_and, and_true, and_self, or_true, true_or, or_false, false_or] at e84
        subst e84
        refine zs_getf (pc := 87) C dX3_readE_87 w_X3_148 f_6_0 (by decide) ?_
        refine zs_iload_n (pc := 90) C dX3_readE_90 rfl ?_
        refine zVv1 (pc := 91) C dX3_readE_91 v_X3_191 (c_X1_finish hX ) (by decide) (by decide) ⟨Nat.zero_le _, Nat.zero_le _⟩ (Nat.le_of_ble_eq_true rfl) (fun G91 hp91 => ?_)
        obtain ⟨hz91, hq91⟩ := hp91
        have tr91_704 := zsm_at hz91 704 (Γ.2.1 w 0) 0 (by decide)
        try simp only [zuI_1, zuI_2, zuJ_1, zuJ_2, zuJ_3, zuP_1, zuP_2, zuP_3, zuC_1, zuC_2, reduceIte, Nat.reduceEqDiff, false_and, and_false, true_and, and_true, and_self, or_true, true_or, or_false, false_or] at tr91_704
        have tr91_402 := zsm_at hz91 402 w 0 (by decide)
        try simp only [zuI_1, zuI_2, zuJ_1, zuJ_2, zuJ_3, zuP_1, zuP_2, zuP_3, zuC_1, zuC_2, reduceIte, Nat.reduceEqDiff, false_and, and_false, true_and, and_true, and_self, or_true, true_or, or_false, false_or] at tr91_402
        have tr91_407 := zsm_at hz91 407 w 0 (by decide)
        try simp only [zuI_1, zuI_2, zuJ_1, zuJ_2, zuJ_3, zuP_1, zuP_2, zuP_3, zuC_1, zuC_2, reduceIte, Nat.reduceEqDiff, false_and, and_false, true_and, and_true, and_self, or_true, true_or, or_false, false_or] at tr91_407
        exact zs_vret (pc := 94) C hr hlk dX3_readE_94 ⟨by repeat (first | exact zsm_rf | assumption | refine zsm_C (by decide) ?_ | refine zsm_I (by decide) ?_ | refine zsm_J ?_ | refine zsm_c (by assumption) (by decide) ?_), by first | omega | (simp only [zuI_1, zuI_2, zuJ_1, zuJ_2, zuJ_3, zuP_1, zuP_2, zuP_3, zuC_1, zuC_2, reduceIte, Nat.reduceEqDiff, false_and, and_false, true_and, and_true, and_self, or_true, true_or, or_false, false_or]; omega)⟩
      · skip
        refine zs_aload_n (pc := 42) C dX3_readE_42 rfl ?_
        refine zs_geti (r := 407) (pc := 43) C dX3_readE_43 w_X3_38 f_4_7 rfl (r_407 0) (fun v43 e43 l43 u43 => ?_)
        refine zs_if_ne (tgt := 78) (pc := 46) C dX3_readE_46 (by decide) (fun h46 => ?_) (fun h46 => ?_)
        · skip
          refine zs_aload_n (pc := 78) C dX3_readE_78 rfl ?_
          refine zs_iconst (pc := 79) C dX3_readE_79 (by decide) ?_
          refine zVv1 (pc := 80) C dX3_readE_80 v_X3_188 (c_X3_release hX (by omega) (by omega)) (by decide) (by decide) ⟨Nat.zero_le _, Nat.zero_le _⟩ (Nat.le_of_ble_eq_true rfl) (fun G80 hp80 => ?_)
          obtain ⟨hz80, hq80⟩ := hp80
          have tr80_704 := zsm_at hz80 704 (Γ.2.1 w 0) 0 (by decide)
          try simp only [zuI_1, zuI_2, zuJ_1, zuJ_2, zuJ_3, zuP_1, zuP_2, zuP_3, zuC_1, zuC_2, reduceIte, Nat.reduceEqDiff, false_and, and_false, true_and, and_true, and_self, or_true, true_or, or_false, false_or] at tr80_704
          have tr80_402 := zsm_at hz80 402 w 0 (by decide)
          try simp only [zuI_1, zuI_2, zuJ_1, zuJ_2, zuJ_3, zuP_1, zuP_2, zuP_3, zuC_1, zuC_2, reduceIte, Nat.reduceEqDiff, false_and, and_false, true_and, and_true, and_self, or_true, true_or, or_false, false_or] at tr80_402
          have tr80_407 := zsm_at hz80 407 w 0 (by decide)
          try simp only [zuI_1, zuI_2, zuJ_1, zuJ_2, zuJ_3, zuP_1, zuP_2, zuP_3, zuC_1, zuC_2, reduceIte, Nat.reduceEqDiff, false_and, and_false, true_and, and_true, and_self, or_true, true_or, or_false, false_or] at tr80_407
          refine zs_aload_n (pc := 83) C dX3_readE_83 rfl ?_
          refine zs_getd (r := 401) (pc := 84) C dX3_readE_84 w_X3_21 f_4_1 (by decide) rfl (fun v84 e84 t84 => ?_)
          try simp only [h35_3.2, hz80.2, zuI_1, zuI_2, zuJ_1, zuJ_2, zuJ_3, zuP_1, zuP_2, zuP_3, zuC_1, zuC_2, reduceIte, Nat.reduceEqDiff, false_and, and_false, true_and, and_true, and_self, or_true, true_or, or_false, false_or] at e84
          subst e84
          refine zs_getf (pc := 87) C dX3_readE_87 w_X3_148 f_6_0 (by decide) ?_
          refine zs_iload_n (pc := 90) C dX3_readE_90 rfl ?_
          refine zVv1 (pc := 91) C dX3_readE_91 v_X3_191 (c_X1_finish hX ) (by decide) (by decide) ⟨Nat.zero_le _, Nat.zero_le _⟩ (Nat.le_of_ble_eq_true rfl) (fun G91 hp91 => ?_)
          obtain ⟨hz91, hq91⟩ := hp91
          have tr91_704 := zsm_at hz91 704 (Γ.2.1 w 0) 0 (by decide)
          try simp only [zuI_1, zuI_2, zuJ_1, zuJ_2, zuJ_3, zuP_1, zuP_2, zuP_3, zuC_1, zuC_2, reduceIte, Nat.reduceEqDiff, false_and, and_false, true_and, and_true, and_self, or_true, true_or, or_false, false_or] at tr91_704
          have tr91_402 := zsm_at hz91 402 w 0 (by decide)
          try simp only [zuI_1, zuI_2, zuJ_1, zuJ_2, zuJ_3, zuP_1, zuP_2, zuP_3, zuC_1, zuC_2, reduceIte, Nat.reduceEqDiff, false_and, and_false, true_and, and_true, and_self, or_true, true_or, or_false, false_or] at tr91_402
          have tr91_407 := zsm_at hz91 407 w 0 (by decide)
          try simp only [zuI_1, zuI_2, zuJ_1, zuJ_2, zuJ_3, zuP_1, zuP_2, zuP_3, zuC_1, zuC_2, reduceIte, Nat.reduceEqDiff, false_and, and_false, true_and, and_true, and_self, or_true, true_or, or_false, false_or] at tr91_407
          exact zs_vret (pc := 94) C hr hlk dX3_readE_94 ⟨by repeat (first | exact zsm_rf | assumption | refine zsm_C (by decide) ?_ | refine zsm_I (by decide) ?_ | refine zsm_J ?_ | refine zsm_c (by assumption) (by decide) ?_), by first | omega | (simp only [zuI_1, zuI_2, zuJ_1, zuJ_2, zuJ_3, zuP_1, zuP_2, zuP_3, zuC_1, zuC_2, reduceIte, Nat.reduceEqDiff, false_and, and_false, true_and, and_true, and_self, or_true, true_or, or_false, false_or]; omega)⟩
        · skip
          refine zs_iload_n (pc := 49) C dX3_readE_49 rfl ?_
          refine zs_if_eq (tgt := 78) (pc := 50) C dX3_readE_50 (by decide) (fun h50 => ?_) (fun h50 => ?_)
          · skip
            refine zs_aload_n (pc := 78) C dX3_readE_78 rfl ?_
            refine zs_iconst (pc := 79) C dX3_readE_79 (by decide) ?_
            refine zVv1 (pc := 80) C dX3_readE_80 v_X3_188 (c_X3_release hX (by omega) (by omega)) (by decide) (by decide) ⟨Nat.zero_le _, Nat.zero_le _⟩ (Nat.le_of_ble_eq_true rfl) (fun G80 hp80 => ?_)
            obtain ⟨hz80, hq80⟩ := hp80
            have tr80_704 := zsm_at hz80 704 (Γ.2.1 w 0) 0 (by decide)
            try simp only [zuI_1, zuI_2, zuJ_1, zuJ_2, zuJ_3, zuP_1, zuP_2, zuP_3, zuC_1, zuC_2, reduceIte, Nat.reduceEqDiff, false_and, and_false, true_and, and_true, and_self, or_true, true_or, or_false, false_or] at tr80_704
            have tr80_402 := zsm_at hz80 402 w 0 (by decide)
            try simp only [zuI_1, zuI_2, zuJ_1, zuJ_2, zuJ_3, zuP_1, zuP_2, zuP_3, zuC_1, zuC_2, reduceIte, Nat.reduceEqDiff, false_and, and_false, true_and, and_true, and_self, or_true, true_or, or_false, false_or] at tr80_402
            have tr80_407 := zsm_at hz80 407 w 0 (by decide)
            try simp only [zuI_1, zuI_2, zuJ_1, zuJ_2, zuJ_3, zuP_1, zuP_2, zuP_3, zuC_1, zuC_2, reduceIte, Nat.reduceEqDiff, false_and, and_false, true_and, and_true, and_self, or_true, true_or, or_false, false_or] at tr80_407
            refine zs_aload_n (pc := 83) C dX3_readE_83 rfl ?_
            refine zs_getd (r := 401) (pc := 84) C dX3_readE_84 w_X3_21 f_4_1 (by decide) rfl (fun v84 e84 t84 => ?_)
            try simp only [h35_3.2, hz80.2, zuI_1, zuI_2, zuJ_1, zuJ_2, zuJ_3, zuP_1, zuP_2, zuP_3, zuC_1, zuC_2, reduceIte, Nat.reduceEqDiff, false_and, and_false, true_and, and_true, and_self, or_true, true_or, or_false, false_or] at e84
            subst e84
            refine zs_getf (pc := 87) C dX3_readE_87 w_X3_148 f_6_0 (by decide) ?_
            refine zs_iload_n (pc := 90) C dX3_readE_90 rfl ?_
            refine zVv1 (pc := 91) C dX3_readE_91 v_X3_191 (c_X1_finish hX ) (by decide) (by decide) ⟨Nat.zero_le _, Nat.zero_le _⟩ (Nat.le_of_ble_eq_true rfl) (fun G91 hp91 => ?_)
            obtain ⟨hz91, hq91⟩ := hp91
            have tr91_704 := zsm_at hz91 704 (Γ.2.1 w 0) 0 (by decide)
            try simp only [zuI_1, zuI_2, zuJ_1, zuJ_2, zuJ_3, zuP_1, zuP_2, zuP_3, zuC_1, zuC_2, reduceIte, Nat.reduceEqDiff, false_and, and_false, true_and, and_true, and_self, or_true, true_or, or_false, false_or] at tr91_704
            have tr91_402 := zsm_at hz91 402 w 0 (by decide)
            try simp only [zuI_1, zuI_2, zuJ_1, zuJ_2, zuJ_3, zuP_1, zuP_2, zuP_3, zuC_1, zuC_2, reduceIte, Nat.reduceEqDiff, false_and, and_false, true_and, and_true, and_self, or_true, true_or, or_false, false_or] at tr91_402
            have tr91_407 := zsm_at hz91 407 w 0 (by decide)
            try simp only [zuI_1, zuI_2, zuJ_1, zuJ_2, zuJ_3, zuP_1, zuP_2, zuP_3, zuC_1, zuC_2, reduceIte, Nat.reduceEqDiff, false_and, and_false, true_and, and_true, and_self, or_true, true_or, or_false, false_or] at tr91_407
            exact zs_vret (pc := 94) C hr hlk dX3_readE_94 ⟨by repeat (first | exact zsm_rf | assumption | refine zsm_C (by decide) ?_ | refine zsm_I (by decide) ?_ | refine zsm_J ?_ | refine zsm_c (by assumption) (by decide) ?_), by first | omega | (simp only [zuI_1, zuI_2, zuJ_1, zuJ_2, zuJ_3, zuP_1, zuP_2, zuP_3, zuC_1, zuC_2, reduceIte, Nat.reduceEqDiff, false_and, and_false, true_and, and_true, and_self, or_true, true_or, or_false, false_or]; omega)⟩
          · skip
            refine zs_aload_n (pc := 53) C dX3_readE_53 rfl ?_
            refine zs_getz (r := 412) (pc := 54) C dX3_readE_54 w_X3_171 f_4_12 rfl (r_412 0) (fun v54 e54 l54 u54 => ?_)
            refine zs_if_eq (tgt := 67) (pc := 57) C dX3_readE_57 (by decide) (fun h57 => ?_) (fun h57 => ?_)
            · skip
              refine zs_aload_n (pc := 67) C dX3_readE_67 rfl ?_
              refine zVi0 (pc := 68) C dX3_readE_68 v_X3_184 (c_X3_readBehindSide hX (by omega) (by omega)) (by decide) (by decide) ⟨Nat.zero_le _, Nat.zero_le _⟩ (Nat.le_of_ble_eq_true rfl) (fun x68 G68 l68 u68 hp68 => ?_)
              obtain ⟨hz68, hq68⟩ := hp68
              have tr68_704 := zsm_at hz68 704 (Γ.2.1 w 0) 0 (by decide)
              try simp only [zuI_1, zuI_2, zuJ_1, zuJ_2, zuJ_3, zuP_1, zuP_2, zuP_3, zuC_1, zuC_2, reduceIte, Nat.reduceEqDiff, false_and, and_false, true_and, and_true, and_self, or_true, true_or, or_false, false_or] at tr68_704
              refine zs_istore_n (pc := 71) C dX3_readE_71 (by decide) ?_
              dsimp only [zset, zclr, znone]
              first | refine zs_iinc (pc := 72) C dX3_readE_72 rfl (by decide) (by omega) ?_ | refine zs_iincF (pc := 72) C dX3_readE_72 rfl (by decide) (fun z72 hz721 hz722 => ?_)
              dsimp only [zset, zclr, znone]
              refine zs_goto (tgt := 35) (pc := 75) C dX3_readE_75 (by decide) ?_
              exact zs_wk (ih35 _ _ _ (by first | omega | (simp only [zuI_1, zuI_2, zuJ_1, zuJ_2, zuJ_3, zuP_1, zuP_2, zuP_3, zuC_1, zuC_2, reduceIte, Nat.reduceEqDiff, false_and, and_false, true_and, and_true, and_self, or_true, true_or, or_false, false_or]; omega)) (by first | omega | (simp only [zuI_1, zuI_2, zuJ_1, zuJ_2, zuJ_3, zuP_1, zuP_2, zuP_3, zuC_1, zuC_2, reduceIte, Nat.reduceEqDiff, false_and, and_false, true_and, and_true, and_self, or_true, true_or, or_false, false_or]; omega)) (by first | omega | (simp only [zuI_1, zuI_2, zuJ_1, zuJ_2, zuJ_3, zuP_1, zuP_2, zuP_3, zuC_1, zuC_2, reduceIte, Nat.reduceEqDiff, false_and, and_false, true_and, and_true, and_self, or_true, true_or, or_false, false_or]; omega)) (by repeat (first | exact zsm_rf | assumption | refine zsm_C (by decide) ?_ | refine zsm_I (by decide) ?_ | refine zsm_J ?_ | refine zsm_c (by assumption) (by decide) ?_)) (by first | omega | (simp only [zuI_1, zuI_2, zuJ_1, zuJ_2, zuJ_3, zuP_1, zuP_2, zuP_3, zuC_1, zuC_2, reduceIte, Nat.reduceEqDiff, false_and, and_false, true_and, and_true, and_self, or_true, true_or, or_false, false_or]; omega))) (zwk_s rfl (zwk_s rfl (zwk_s rfl (zwk_s rfl zwk_0))))
            · skip
              refine zs_aload_n (pc := 60) C dX3_readE_60 rfl ?_
              refine zVv0 (pc := 61) C dX3_readE_61 v_X3_181 (c_X3_readSide hX (by omega) (by omega)) (by decide) (by decide) ⟨Nat.zero_le _, Nat.zero_le _⟩ (Nat.le_of_ble_eq_true rfl) (fun G61 hp61 => ?_)
              obtain ⟨hz61, hq61⟩ := hp61
              have tr61_704 := zsm_at hz61 704 (Γ.2.1 w 0) 0 (by decide)
              try simp only [zuI_1, zuI_2, zuJ_1, zuJ_2, zuJ_3, zuP_1, zuP_2, zuP_3, zuC_1, zuC_2, reduceIte, Nat.reduceEqDiff, false_and, and_false, true_and, and_true, and_self, or_true, true_or, or_false, false_or] at tr61_704
              refine zs_goto (tgt := 72) (pc := 64) C dX3_readE_64 (by decide) ?_
              first | refine zs_iinc (pc := 72) C dX3_readE_72 rfl (by decide) (by omega) ?_ | refine zs_iincF (pc := 72) C dX3_readE_72 rfl (by decide) (fun z72 hz721 hz722 => ?_)
              dsimp only [zset, zclr, znone]
              refine zs_goto (tgt := 35) (pc := 75) C dX3_readE_75 (by decide) ?_
              exact zs_wk (ih35 _ _ _ (by first | omega | (simp only [zuI_1, zuI_2, zuJ_1, zuJ_2, zuJ_3, zuP_1, zuP_2, zuP_3, zuC_1, zuC_2, reduceIte, Nat.reduceEqDiff, false_and, and_false, true_and, and_true, and_self, or_true, true_or, or_false, false_or]; omega)) (by first | omega | (simp only [zuI_1, zuI_2, zuJ_1, zuJ_2, zuJ_3, zuP_1, zuP_2, zuP_3, zuC_1, zuC_2, reduceIte, Nat.reduceEqDiff, false_and, and_false, true_and, and_true, and_self, or_true, true_or, or_false, false_or]; omega)) (by first | omega | (simp only [zuI_1, zuI_2, zuJ_1, zuJ_2, zuJ_3, zuP_1, zuP_2, zuP_3, zuC_1, zuC_2, reduceIte, Nat.reduceEqDiff, false_and, and_false, true_and, and_true, and_self, or_true, true_or, or_false, false_or]; omega)) (by repeat (first | exact zsm_rf | assumption | refine zsm_C (by decide) ?_ | refine zsm_I (by decide) ?_ | refine zsm_J ?_ | refine zsm_c (by assumption) (by decide) ?_)) (by first | omega | (simp only [zuI_1, zuI_2, zuJ_1, zuJ_2, zuJ_3, zuP_1, zuP_2, zuP_3, zuC_1, zuC_2, reduceIte, Nat.reduceEqDiff, false_and, and_false, true_and, and_true, and_self, or_true, true_or, or_false, false_or]; omega))) (zwk_s rfl (zwk_s rfl (zwk_s rfl (zwk_s rfl zwk_0))))
  exact zs_wk (L35 _ _ _ _ (by first | omega | (simp only [zuI_1, zuI_2, zuJ_1, zuJ_2, zuJ_3, zuP_1, zuP_2, zuP_3, zuC_1, zuC_2, reduceIte, Nat.reduceEqDiff, false_and, and_false, true_and, and_true, and_self, or_true, true_or, or_false, false_or]; omega)) (by first | omega | (simp only [zuI_1, zuI_2, zuJ_1, zuJ_2, zuJ_3, zuP_1, zuP_2, zuP_3, zuC_1, zuC_2, reduceIte, Nat.reduceEqDiff, false_and, and_false, true_and, and_true, and_self, or_true, true_or, or_false, false_or]; omega)) (by first | omega | (simp only [zuI_1, zuI_2, zuJ_1, zuJ_2, zuJ_3, zuP_1, zuP_2, zuP_3, zuC_1, zuC_2, reduceIte, Nat.reduceEqDiff, false_and, and_false, true_and, and_true, and_self, or_true, true_or, or_false, false_or]; omega)) (by repeat (first | exact zsm_rf | assumption | refine zsm_C (by decide) ?_ | refine zsm_I (by decide) ?_ | refine zsm_J ?_ | refine zsm_c (by assumption) (by decide) ?_)) (Nat.lt_succ_self _)) (zwk_s rfl (zwk_s rfl (zwk_s rfl (zwk_s rfl zwk_0))))

set_option maxHeartbeats 4000000 in
set_option maxRecDepth 100000 in
theorem c_X3_readLine {l : Launch} {Γ : zΓ} {G : zH} {w : Nat}  (hX : zXs Γ) (h1 : 1 ≤ G.1 704 (Γ.2.1 w 0) 0) (h2 : 0 ≤ G.1 402 w 0)  : zMet l Γ yX3_readLine cX3_readLine 1 none 5 [zr 4 w] G (zpv (fun G' => zsm [402, 403, 404, 405, 406, 407, 408, 409, 410, 411, 412, 413, 2025, 206, 207, 2014, 2015, 2016, 2017, 2036, 2037, 2038, 2039, 2040, 2041, 2042, 2043, 609, 610, 611, 612] G G' ∧ (0 ≤ G'.1 402 w 0))) := by
  refine zMet_of RX3 hX (by decide) rfl (Nat.le_of_ble_eq_true rfl) ?_
  intro p e s m args below meth c C hr hlk
  show Z p l e (zrm 5) s m args below meth c Γ 1 0 0 (MQ below (zQc Γ (zpv (fun G' => zsm [402, 403, 404, 405, 406, 407, 408, 409, 410, 411, 412, 413, 2025, 206, 207, 2014, 2015, 2016, 2017, 2036, 2037, 2038, 2039, 2040, 2041, 2042, 2043, 609, 610, 611, 612] G G' ∧ (0 ≤ G'.1 402 w 0)))) args s 0 0 (zA Γ)) 0 [some (zr 4 w)] [] G
  refine zs_aload_n (pc := 0) C dX3_readLine_0 rfl ?_
  refine zs_geti (r := 405) (pc := 1) C dX3_readLine_1 w_X3_70 f_4_5 rfl (r_405 0) (fun v1 e1 l1 u1 => ?_)
  refine zs_name (fun y4 ey4 => ?_)
  rcases (show y4 = 0 ∨ y4 = 1 ∨ y4 = 2 ∨ y4 = 3 ∨ y4 = 4 ∨ y4 = 5 ∨ y4 = 6 ∨ y4 = 7 ∨ y4 = 8 ∨ y4 = 9 ∨ (y4 < 0 ∨ 9 < y4) by omega) with h4 | h4 | h4 | h4 | h4 | h4 | h4 | h4 | h4 | h4 | h4
  · skip
    refine zs_tabIn (pc := 4) (tgt := 60) C 0 dX3_readLine_4 h4 (by decide) rfl (by decide) ?_
    refine zs_aload_n (pc := 60) C dX3_readLine_60 rfl ?_
    refine zVv0 (pc := 61) C dX3_readLine_61 v_X3_76 (c_X3_readSin hX (by omega) (by omega)) (by decide) (by decide) ⟨Nat.zero_le _, Nat.zero_le _⟩ (Nat.le_of_ble_eq_true rfl) (fun G61 hp61 => ?_)
    obtain ⟨hz61, hq61⟩ := hp61
    have tr61_704 := zsm_at hz61 704 (Γ.2.1 w 0) 0 (by decide)
    try simp only [zuI_1, zuI_2, zuJ_1, zuJ_2, zuJ_3, zuP_1, zuP_2, zuP_3, zuC_1, zuC_2, reduceIte, Nat.reduceEqDiff, false_and, and_false, true_and, and_true, and_self, or_true, true_or, or_false, false_or] at tr61_704
    refine zs_goto (tgt := 181) (pc := 64) C dX3_readLine_64 (by decide) ?_
    refine zs_aload_n (pc := 181) C dX3_readLine_181 rfl ?_
    refine zs_bipush (pc := 182) C dX3_readLine_182 (by decide) (by decide) ?_
    refine zVip1 (pc := 184) C dX3_readLine_184 v_X3_117 (c_X3_isSign hX ) (by decide) (by decide) ⟨Nat.zero_le _, Nat.zero_le _⟩ (Nat.le_of_ble_eq_true rfl) (fun x184 l184 u184 hp184 => ?_)
    have hq184 := hp184
    refine zs_if_ne (tgt := 195) (pc := 187) C dX3_readLine_187 (by decide) (fun h187 => ?_) (fun h187 => ?_)
    · skip
      refine zs_aload_n (pc := 195) C dX3_readLine_195 rfl ?_
      refine zs_geti (r := 407) (pc := 196) C dX3_readLine_196 w_X3_38 f_4_7 rfl (r_407 0) (fun v196 e196 l196 u196 => ?_)
      refine zs_if_ne (tgt := 206) (pc := 199) C dX3_readLine_199 (by decide) (fun h199 => ?_) (fun h199 => ?_)
      · skip
        exact zs_vret (pc := 206) C hr hlk dX3_readLine_206 ⟨by repeat (first | exact zsm_rf | assumption | refine zsm_C (by decide) ?_ | refine zsm_I (by decide) ?_ | refine zsm_J ?_ | refine zsm_c (by assumption) (by decide) ?_), by first | omega | (simp only [zuI_1, zuI_2, zuJ_1, zuJ_2, zuJ_3, zuP_1, zuP_2, zuP_3, zuC_1, zuC_2, reduceIte, Nat.reduceEqDiff, false_and, and_false, true_and, and_true, and_self, or_true, true_or, or_false, false_or]; omega)⟩
      · skip
        refine zs_aload_n (pc := 202) C dX3_readLine_202 rfl ?_
        refine zVv0 (pc := 203) C dX3_readLine_203 v_X3_51 (c_X3_next hX (by omega)) (by decide) (by decide) ⟨Nat.zero_le _, Nat.zero_le _⟩ (Nat.le_of_ble_eq_true rfl) (fun G203 hp203 => ?_)
        obtain ⟨hz203, hq203⟩ := hp203
        have tr203_704 := zsm_at hz203 704 (Γ.2.1 w 0) 0 (by decide)
        try simp only [zuI_1, zuI_2, zuJ_1, zuJ_2, zuJ_3, zuP_1, zuP_2, zuP_3, zuC_1, zuC_2, reduceIte, Nat.reduceEqDiff, false_and, and_false, true_and, and_true, and_self, or_true, true_or, or_false, false_or] at tr203_704
        have tr203_407 := zsm_at hz203 407 w 0 (by decide)
        try simp only [zuI_1, zuI_2, zuJ_1, zuJ_2, zuJ_3, zuP_1, zuP_2, zuP_3, zuC_1, zuC_2, reduceIte, Nat.reduceEqDiff, false_and, and_false, true_and, and_true, and_self, or_true, true_or, or_false, false_or] at tr203_407
        exact zs_vret (pc := 206) C hr hlk dX3_readLine_206 ⟨by repeat (first | exact zsm_rf | assumption | refine zsm_C (by decide) ?_ | refine zsm_I (by decide) ?_ | refine zsm_J ?_ | refine zsm_c (by assumption) (by decide) ?_), by first | omega | (simp only [zuI_1, zuI_2, zuJ_1, zuJ_2, zuJ_3, zuP_1, zuP_2, zuP_3, zuC_1, zuC_2, reduceIte, Nat.reduceEqDiff, false_and, and_false, true_and, and_true, and_self, or_true, true_or, or_false, false_or]; omega)⟩
    · skip
      refine zs_aload_n (pc := 190) C dX3_readLine_190 rfl ?_
      refine zs_iconst (pc := 191) C dX3_readLine_191 (by decide) ?_
      refine zVv1 (pc := 192) C dX3_readLine_192 v_X3_114 (c_X3_fail hX (by omega) (by omega)) (by decide) (by decide) ⟨Nat.zero_le _, Nat.zero_le _⟩ (Nat.le_of_ble_eq_true rfl) (fun G192 hp192 => ?_)
      obtain ⟨hz192, hq192⟩ := hp192
      have tr192_704 := zsm_at hz192 704 (Γ.2.1 w 0) 0 (by decide)
      try simp only [zuI_1, zuI_2, zuJ_1, zuJ_2, zuJ_3, zuP_1, zuP_2, zuP_3, zuC_1, zuC_2, reduceIte, Nat.reduceEqDiff, false_and, and_false, true_and, and_true, and_self, or_true, true_or, or_false, false_or] at tr192_704
      have tr192_402 := zsm_at hz192 402 w 0 (by decide)
      try simp only [zuI_1, zuI_2, zuJ_1, zuJ_2, zuJ_3, zuP_1, zuP_2, zuP_3, zuC_1, zuC_2, reduceIte, Nat.reduceEqDiff, false_and, and_false, true_and, and_true, and_self, or_true, true_or, or_false, false_or] at tr192_402
      refine zs_aload_n (pc := 195) C dX3_readLine_195 rfl ?_
      refine zs_geti (r := 407) (pc := 196) C dX3_readLine_196 w_X3_38 f_4_7 rfl (r_407 0) (fun v196 e196 l196 u196 => ?_)
      refine zs_if_ne (tgt := 206) (pc := 199) C dX3_readLine_199 (by decide) (fun h199 => ?_) (fun h199 => ?_)
      · skip
        exact zs_vret (pc := 206) C hr hlk dX3_readLine_206 ⟨by repeat (first | exact zsm_rf | assumption | refine zsm_C (by decide) ?_ | refine zsm_I (by decide) ?_ | refine zsm_J ?_ | refine zsm_c (by assumption) (by decide) ?_), by first | omega | (simp only [zuI_1, zuI_2, zuJ_1, zuJ_2, zuJ_3, zuP_1, zuP_2, zuP_3, zuC_1, zuC_2, reduceIte, Nat.reduceEqDiff, false_and, and_false, true_and, and_true, and_self, or_true, true_or, or_false, false_or]; omega)⟩
      · skip
        refine zs_aload_n (pc := 202) C dX3_readLine_202 rfl ?_
        refine zVv0 (pc := 203) C dX3_readLine_203 v_X3_51 (c_X3_next hX (by omega)) (by decide) (by decide) ⟨Nat.zero_le _, Nat.zero_le _⟩ (Nat.le_of_ble_eq_true rfl) (fun G203 hp203 => ?_)
        obtain ⟨hz203, hq203⟩ := hp203
        have tr203_704 := zsm_at hz203 704 (Γ.2.1 w 0) 0 (by decide)
        try simp only [zuI_1, zuI_2, zuJ_1, zuJ_2, zuJ_3, zuP_1, zuP_2, zuP_3, zuC_1, zuC_2, reduceIte, Nat.reduceEqDiff, false_and, and_false, true_and, and_true, and_self, or_true, true_or, or_false, false_or] at tr203_704
        have tr203_407 := zsm_at hz203 407 w 0 (by decide)
        try simp only [zuI_1, zuI_2, zuJ_1, zuJ_2, zuJ_3, zuP_1, zuP_2, zuP_3, zuC_1, zuC_2, reduceIte, Nat.reduceEqDiff, false_and, and_false, true_and, and_true, and_self, or_true, true_or, or_false, false_or] at tr203_407
        exact zs_vret (pc := 206) C hr hlk dX3_readLine_206 ⟨by repeat (first | exact zsm_rf | assumption | refine zsm_C (by decide) ?_ | refine zsm_I (by decide) ?_ | refine zsm_J ?_ | refine zsm_c (by assumption) (by decide) ?_), by first | omega | (simp only [zuI_1, zuI_2, zuJ_1, zuJ_2, zuJ_3, zuP_1, zuP_2, zuP_3, zuC_1, zuC_2, reduceIte, Nat.reduceEqDiff, false_and, and_false, true_and, and_true, and_self, or_true, true_or, or_false, false_or]; omega)⟩
  · skip
    refine zs_tabIn (pc := 4) (tgt := 67) C 1 dX3_readLine_4 h4 (by decide) rfl (by decide) ?_
    refine zs_aload_n (pc := 67) C dX3_readLine_67 rfl ?_
    refine zVv0 (pc := 68) C dX3_readLine_68 v_X3_79 (c_X3_readPerson hX (by omega) (by omega)) (by decide) (by decide) ⟨Nat.zero_le _, Nat.zero_le _⟩ (Nat.le_of_ble_eq_true rfl) (fun G68 hp68 => ?_)
    obtain ⟨hz68, hq68⟩ := hp68
    have tr68_704 := zsm_at hz68 704 (Γ.2.1 w 0) 0 (by decide)
    try simp only [zuI_1, zuI_2, zuJ_1, zuJ_2, zuJ_3, zuP_1, zuP_2, zuP_3, zuC_1, zuC_2, reduceIte, Nat.reduceEqDiff, false_and, and_false, true_and, and_true, and_self, or_true, true_or, or_false, false_or] at tr68_704
    refine zs_goto (tgt := 181) (pc := 71) C dX3_readLine_71 (by decide) ?_
    refine zs_aload_n (pc := 181) C dX3_readLine_181 rfl ?_
    refine zs_bipush (pc := 182) C dX3_readLine_182 (by decide) (by decide) ?_
    refine zVip1 (pc := 184) C dX3_readLine_184 v_X3_117 (c_X3_isSign hX ) (by decide) (by decide) ⟨Nat.zero_le _, Nat.zero_le _⟩ (Nat.le_of_ble_eq_true rfl) (fun x184 l184 u184 hp184 => ?_)
    have hq184 := hp184
    refine zs_if_ne (tgt := 195) (pc := 187) C dX3_readLine_187 (by decide) (fun h187 => ?_) (fun h187 => ?_)
    · skip
      refine zs_aload_n (pc := 195) C dX3_readLine_195 rfl ?_
      refine zs_geti (r := 407) (pc := 196) C dX3_readLine_196 w_X3_38 f_4_7 rfl (r_407 0) (fun v196 e196 l196 u196 => ?_)
      refine zs_if_ne (tgt := 206) (pc := 199) C dX3_readLine_199 (by decide) (fun h199 => ?_) (fun h199 => ?_)
      · skip
        exact zs_vret (pc := 206) C hr hlk dX3_readLine_206 ⟨by repeat (first | exact zsm_rf | assumption | refine zsm_C (by decide) ?_ | refine zsm_I (by decide) ?_ | refine zsm_J ?_ | refine zsm_c (by assumption) (by decide) ?_), by first | omega | (simp only [zuI_1, zuI_2, zuJ_1, zuJ_2, zuJ_3, zuP_1, zuP_2, zuP_3, zuC_1, zuC_2, reduceIte, Nat.reduceEqDiff, false_and, and_false, true_and, and_true, and_self, or_true, true_or, or_false, false_or]; omega)⟩
      · skip
        refine zs_aload_n (pc := 202) C dX3_readLine_202 rfl ?_
        refine zVv0 (pc := 203) C dX3_readLine_203 v_X3_51 (c_X3_next hX (by omega)) (by decide) (by decide) ⟨Nat.zero_le _, Nat.zero_le _⟩ (Nat.le_of_ble_eq_true rfl) (fun G203 hp203 => ?_)
        obtain ⟨hz203, hq203⟩ := hp203
        have tr203_704 := zsm_at hz203 704 (Γ.2.1 w 0) 0 (by decide)
        try simp only [zuI_1, zuI_2, zuJ_1, zuJ_2, zuJ_3, zuP_1, zuP_2, zuP_3, zuC_1, zuC_2, reduceIte, Nat.reduceEqDiff, false_and, and_false, true_and, and_true, and_self, or_true, true_or, or_false, false_or] at tr203_704
        have tr203_407 := zsm_at hz203 407 w 0 (by decide)
        try simp only [zuI_1, zuI_2, zuJ_1, zuJ_2, zuJ_3, zuP_1, zuP_2, zuP_3, zuC_1, zuC_2, reduceIte, Nat.reduceEqDiff, false_and, and_false, true_and, and_true, and_self, or_true, true_or, or_false, false_or] at tr203_407
        exact zs_vret (pc := 206) C hr hlk dX3_readLine_206 ⟨by repeat (first | exact zsm_rf | assumption | refine zsm_C (by decide) ?_ | refine zsm_I (by decide) ?_ | refine zsm_J ?_ | refine zsm_c (by assumption) (by decide) ?_), by first | omega | (simp only [zuI_1, zuI_2, zuJ_1, zuJ_2, zuJ_3, zuP_1, zuP_2, zuP_3, zuC_1, zuC_2, reduceIte, Nat.reduceEqDiff, false_and, and_false, true_and, and_true, and_self, or_true, true_or, or_false, false_or]; omega)⟩
    · skip
      refine zs_aload_n (pc := 190) C dX3_readLine_190 rfl ?_
      refine zs_iconst (pc := 191) C dX3_readLine_191 (by decide) ?_
      refine zVv1 (pc := 192) C dX3_readLine_192 v_X3_114 (c_X3_fail hX (by omega) (by omega)) (by decide) (by decide) ⟨Nat.zero_le _, Nat.zero_le _⟩ (Nat.le_of_ble_eq_true rfl) (fun G192 hp192 => ?_)
      obtain ⟨hz192, hq192⟩ := hp192
      have tr192_704 := zsm_at hz192 704 (Γ.2.1 w 0) 0 (by decide)
      try simp only [zuI_1, zuI_2, zuJ_1, zuJ_2, zuJ_3, zuP_1, zuP_2, zuP_3, zuC_1, zuC_2, reduceIte, Nat.reduceEqDiff, false_and, and_false, true_and, and_true, and_self, or_true, true_or, or_false, false_or] at tr192_704
      have tr192_402 := zsm_at hz192 402 w 0 (by decide)
      try simp only [zuI_1, zuI_2, zuJ_1, zuJ_2, zuJ_3, zuP_1, zuP_2, zuP_3, zuC_1, zuC_2, reduceIte, Nat.reduceEqDiff, false_and, and_false, true_and, and_true, and_self, or_true, true_or, or_false, false_or] at tr192_402
      refine zs_aload_n (pc := 195) C dX3_readLine_195 rfl ?_
      refine zs_geti (r := 407) (pc := 196) C dX3_readLine_196 w_X3_38 f_4_7 rfl (r_407 0) (fun v196 e196 l196 u196 => ?_)
      refine zs_if_ne (tgt := 206) (pc := 199) C dX3_readLine_199 (by decide) (fun h199 => ?_) (fun h199 => ?_)
      · skip
        exact zs_vret (pc := 206) C hr hlk dX3_readLine_206 ⟨by repeat (first | exact zsm_rf | assumption | refine zsm_C (by decide) ?_ | refine zsm_I (by decide) ?_ | refine zsm_J ?_ | refine zsm_c (by assumption) (by decide) ?_), by first | omega | (simp only [zuI_1, zuI_2, zuJ_1, zuJ_2, zuJ_3, zuP_1, zuP_2, zuP_3, zuC_1, zuC_2, reduceIte, Nat.reduceEqDiff, false_and, and_false, true_and, and_true, and_self, or_true, true_or, or_false, false_or]; omega)⟩
      · skip
        refine zs_aload_n (pc := 202) C dX3_readLine_202 rfl ?_
        refine zVv0 (pc := 203) C dX3_readLine_203 v_X3_51 (c_X3_next hX (by omega)) (by decide) (by decide) ⟨Nat.zero_le _, Nat.zero_le _⟩ (Nat.le_of_ble_eq_true rfl) (fun G203 hp203 => ?_)
        obtain ⟨hz203, hq203⟩ := hp203
        have tr203_704 := zsm_at hz203 704 (Γ.2.1 w 0) 0 (by decide)
        try simp only [zuI_1, zuI_2, zuJ_1, zuJ_2, zuJ_3, zuP_1, zuP_2, zuP_3, zuC_1, zuC_2, reduceIte, Nat.reduceEqDiff, false_and, and_false, true_and, and_true, and_self, or_true, true_or, or_false, false_or] at tr203_704
        have tr203_407 := zsm_at hz203 407 w 0 (by decide)
        try simp only [zuI_1, zuI_2, zuJ_1, zuJ_2, zuJ_3, zuP_1, zuP_2, zuP_3, zuC_1, zuC_2, reduceIte, Nat.reduceEqDiff, false_and, and_false, true_and, and_true, and_self, or_true, true_or, or_false, false_or] at tr203_407
        exact zs_vret (pc := 206) C hr hlk dX3_readLine_206 ⟨by repeat (first | exact zsm_rf | assumption | refine zsm_C (by decide) ?_ | refine zsm_I (by decide) ?_ | refine zsm_J ?_ | refine zsm_c (by assumption) (by decide) ?_), by first | omega | (simp only [zuI_1, zuI_2, zuJ_1, zuJ_2, zuJ_3, zuP_1, zuP_2, zuP_3, zuC_1, zuC_2, reduceIte, Nat.reduceEqDiff, false_and, and_false, true_and, and_true, and_self, or_true, true_or, or_false, false_or]; omega)⟩
  · skip
    refine zs_tabIn (pc := 4) (tgt := 176) C 2 dX3_readLine_4 h4 (by decide) rfl (by decide) ?_
    refine zs_aload_n (pc := 176) C dX3_readLine_176 rfl ?_
    refine zs_iconst (pc := 177) C dX3_readLine_177 (by decide) ?_
    refine zVv1 (pc := 178) C dX3_readLine_178 v_X3_114 (c_X3_fail hX (by omega) (by omega)) (by decide) (by decide) ⟨Nat.zero_le _, Nat.zero_le _⟩ (Nat.le_of_ble_eq_true rfl) (fun G178 hp178 => ?_)
    obtain ⟨hz178, hq178⟩ := hp178
    have tr178_704 := zsm_at hz178 704 (Γ.2.1 w 0) 0 (by decide)
    try simp only [zuI_1, zuI_2, zuJ_1, zuJ_2, zuJ_3, zuP_1, zuP_2, zuP_3, zuC_1, zuC_2, reduceIte, Nat.reduceEqDiff, false_and, and_false, true_and, and_true, and_self, or_true, true_or, or_false, false_or] at tr178_704
    have tr178_402 := zsm_at hz178 402 w 0 (by decide)
    try simp only [zuI_1, zuI_2, zuJ_1, zuJ_2, zuJ_3, zuP_1, zuP_2, zuP_3, zuC_1, zuC_2, reduceIte, Nat.reduceEqDiff, false_and, and_false, true_and, and_true, and_self, or_true, true_or, or_false, false_or] at tr178_402
    refine zs_aload_n (pc := 181) C dX3_readLine_181 rfl ?_
    refine zs_bipush (pc := 182) C dX3_readLine_182 (by decide) (by decide) ?_
    refine zVip1 (pc := 184) C dX3_readLine_184 v_X3_117 (c_X3_isSign hX ) (by decide) (by decide) ⟨Nat.zero_le _, Nat.zero_le _⟩ (Nat.le_of_ble_eq_true rfl) (fun x184 l184 u184 hp184 => ?_)
    have hq184 := hp184
    refine zs_if_ne (tgt := 195) (pc := 187) C dX3_readLine_187 (by decide) (fun h187 => ?_) (fun h187 => ?_)
    · skip
      refine zs_aload_n (pc := 195) C dX3_readLine_195 rfl ?_
      refine zs_geti (r := 407) (pc := 196) C dX3_readLine_196 w_X3_38 f_4_7 rfl (r_407 0) (fun v196 e196 l196 u196 => ?_)
      refine zs_if_ne (tgt := 206) (pc := 199) C dX3_readLine_199 (by decide) (fun h199 => ?_) (fun h199 => ?_)
      · skip
        exact zs_vret (pc := 206) C hr hlk dX3_readLine_206 ⟨by repeat (first | exact zsm_rf | assumption | refine zsm_C (by decide) ?_ | refine zsm_I (by decide) ?_ | refine zsm_J ?_ | refine zsm_c (by assumption) (by decide) ?_), by first | omega | (simp only [zuI_1, zuI_2, zuJ_1, zuJ_2, zuJ_3, zuP_1, zuP_2, zuP_3, zuC_1, zuC_2, reduceIte, Nat.reduceEqDiff, false_and, and_false, true_and, and_true, and_self, or_true, true_or, or_false, false_or]; omega)⟩
      · skip
        refine zs_aload_n (pc := 202) C dX3_readLine_202 rfl ?_
        refine zVv0 (pc := 203) C dX3_readLine_203 v_X3_51 (c_X3_next hX (by omega)) (by decide) (by decide) ⟨Nat.zero_le _, Nat.zero_le _⟩ (Nat.le_of_ble_eq_true rfl) (fun G203 hp203 => ?_)
        obtain ⟨hz203, hq203⟩ := hp203
        have tr203_704 := zsm_at hz203 704 (Γ.2.1 w 0) 0 (by decide)
        try simp only [zuI_1, zuI_2, zuJ_1, zuJ_2, zuJ_3, zuP_1, zuP_2, zuP_3, zuC_1, zuC_2, reduceIte, Nat.reduceEqDiff, false_and, and_false, true_and, and_true, and_self, or_true, true_or, or_false, false_or] at tr203_704
        have tr203_407 := zsm_at hz203 407 w 0 (by decide)
        try simp only [zuI_1, zuI_2, zuJ_1, zuJ_2, zuJ_3, zuP_1, zuP_2, zuP_3, zuC_1, zuC_2, reduceIte, Nat.reduceEqDiff, false_and, and_false, true_and, and_true, and_self, or_true, true_or, or_false, false_or] at tr203_407
        exact zs_vret (pc := 206) C hr hlk dX3_readLine_206 ⟨by repeat (first | exact zsm_rf | assumption | refine zsm_C (by decide) ?_ | refine zsm_I (by decide) ?_ | refine zsm_J ?_ | refine zsm_c (by assumption) (by decide) ?_), by first | omega | (simp only [zuI_1, zuI_2, zuJ_1, zuJ_2, zuJ_3, zuP_1, zuP_2, zuP_3, zuC_1, zuC_2, reduceIte, Nat.reduceEqDiff, false_and, and_false, true_and, and_true, and_self, or_true, true_or, or_false, false_or]; omega)⟩
    · skip
      refine zs_aload_n (pc := 190) C dX3_readLine_190 rfl ?_
      refine zs_iconst (pc := 191) C dX3_readLine_191 (by decide) ?_
      refine zVv1 (pc := 192) C dX3_readLine_192 v_X3_114 (c_X3_fail hX (by omega) (by omega)) (by decide) (by decide) ⟨Nat.zero_le _, Nat.zero_le _⟩ (Nat.le_of_ble_eq_true rfl) (fun G192 hp192 => ?_)
      obtain ⟨hz192, hq192⟩ := hp192
      have tr192_704 := zsm_at hz192 704 (Γ.2.1 w 0) 0 (by decide)
      try simp only [zuI_1, zuI_2, zuJ_1, zuJ_2, zuJ_3, zuP_1, zuP_2, zuP_3, zuC_1, zuC_2, reduceIte, Nat.reduceEqDiff, false_and, and_false, true_and, and_true, and_self, or_true, true_or, or_false, false_or] at tr192_704
      have tr192_402 := zsm_at hz192 402 w 0 (by decide)
      try simp only [zuI_1, zuI_2, zuJ_1, zuJ_2, zuJ_3, zuP_1, zuP_2, zuP_3, zuC_1, zuC_2, reduceIte, Nat.reduceEqDiff, false_and, and_false, true_and, and_true, and_self, or_true, true_or, or_false, false_or] at tr192_402
      refine zs_aload_n (pc := 195) C dX3_readLine_195 rfl ?_
      refine zs_geti (r := 407) (pc := 196) C dX3_readLine_196 w_X3_38 f_4_7 rfl (r_407 0) (fun v196 e196 l196 u196 => ?_)
      refine zs_if_ne (tgt := 206) (pc := 199) C dX3_readLine_199 (by decide) (fun h199 => ?_) (fun h199 => ?_)
      · skip
        exact zs_vret (pc := 206) C hr hlk dX3_readLine_206 ⟨by repeat (first | exact zsm_rf | assumption | refine zsm_C (by decide) ?_ | refine zsm_I (by decide) ?_ | refine zsm_J ?_ | refine zsm_c (by assumption) (by decide) ?_), by first | omega | (simp only [zuI_1, zuI_2, zuJ_1, zuJ_2, zuJ_3, zuP_1, zuP_2, zuP_3, zuC_1, zuC_2, reduceIte, Nat.reduceEqDiff, false_and, and_false, true_and, and_true, and_self, or_true, true_or, or_false, false_or]; omega)⟩
      · skip
        refine zs_aload_n (pc := 202) C dX3_readLine_202 rfl ?_
        refine zVv0 (pc := 203) C dX3_readLine_203 v_X3_51 (c_X3_next hX (by omega)) (by decide) (by decide) ⟨Nat.zero_le _, Nat.zero_le _⟩ (Nat.le_of_ble_eq_true rfl) (fun G203 hp203 => ?_)
        obtain ⟨hz203, hq203⟩ := hp203
        have tr203_704 := zsm_at hz203 704 (Γ.2.1 w 0) 0 (by decide)
        try simp only [zuI_1, zuI_2, zuJ_1, zuJ_2, zuJ_3, zuP_1, zuP_2, zuP_3, zuC_1, zuC_2, reduceIte, Nat.reduceEqDiff, false_and, and_false, true_and, and_true, and_self, or_true, true_or, or_false, false_or] at tr203_704
        have tr203_407 := zsm_at hz203 407 w 0 (by decide)
        try simp only [zuI_1, zuI_2, zuJ_1, zuJ_2, zuJ_3, zuP_1, zuP_2, zuP_3, zuC_1, zuC_2, reduceIte, Nat.reduceEqDiff, false_and, and_false, true_and, and_true, and_self, or_true, true_or, or_false, false_or] at tr203_407
        exact zs_vret (pc := 206) C hr hlk dX3_readLine_206 ⟨by repeat (first | exact zsm_rf | assumption | refine zsm_C (by decide) ?_ | refine zsm_I (by decide) ?_ | refine zsm_J ?_ | refine zsm_c (by assumption) (by decide) ?_), by first | omega | (simp only [zuI_1, zuI_2, zuJ_1, zuJ_2, zuJ_3, zuP_1, zuP_2, zuP_3, zuC_1, zuC_2, reduceIte, Nat.reduceEqDiff, false_and, and_false, true_and, and_true, and_self, or_true, true_or, or_false, false_or]; omega)⟩
  · skip
    refine zs_tabIn (pc := 4) (tgt := 74) C 3 dX3_readLine_4 h4 (by decide) rfl (by decide) ?_
    refine zs_aload_n (pc := 74) C dX3_readLine_74 rfl ?_
    refine zVv0 (pc := 75) C dX3_readLine_75 v_X3_82 (c_X3_readCake hX (by omega) (by omega)) (by decide) (by decide) ⟨Nat.zero_le _, Nat.zero_le _⟩ (Nat.le_of_ble_eq_true rfl) (fun G75 hp75 => ?_)
    obtain ⟨hz75, hq75⟩ := hp75
    have tr75_704 := zsm_at hz75 704 (Γ.2.1 w 0) 0 (by decide)
    try simp only [zuI_1, zuI_2, zuJ_1, zuJ_2, zuJ_3, zuP_1, zuP_2, zuP_3, zuC_1, zuC_2, reduceIte, Nat.reduceEqDiff, false_and, and_false, true_and, and_true, and_self, or_true, true_or, or_false, false_or] at tr75_704
    refine zs_goto (tgt := 181) (pc := 78) C dX3_readLine_78 (by decide) ?_
    refine zs_aload_n (pc := 181) C dX3_readLine_181 rfl ?_
    refine zs_bipush (pc := 182) C dX3_readLine_182 (by decide) (by decide) ?_
    refine zVip1 (pc := 184) C dX3_readLine_184 v_X3_117 (c_X3_isSign hX ) (by decide) (by decide) ⟨Nat.zero_le _, Nat.zero_le _⟩ (Nat.le_of_ble_eq_true rfl) (fun x184 l184 u184 hp184 => ?_)
    have hq184 := hp184
    refine zs_if_ne (tgt := 195) (pc := 187) C dX3_readLine_187 (by decide) (fun h187 => ?_) (fun h187 => ?_)
    · skip
      refine zs_aload_n (pc := 195) C dX3_readLine_195 rfl ?_
      refine zs_geti (r := 407) (pc := 196) C dX3_readLine_196 w_X3_38 f_4_7 rfl (r_407 0) (fun v196 e196 l196 u196 => ?_)
      refine zs_if_ne (tgt := 206) (pc := 199) C dX3_readLine_199 (by decide) (fun h199 => ?_) (fun h199 => ?_)
      · skip
        exact zs_vret (pc := 206) C hr hlk dX3_readLine_206 ⟨by repeat (first | exact zsm_rf | assumption | refine zsm_C (by decide) ?_ | refine zsm_I (by decide) ?_ | refine zsm_J ?_ | refine zsm_c (by assumption) (by decide) ?_), by first | omega | (simp only [zuI_1, zuI_2, zuJ_1, zuJ_2, zuJ_3, zuP_1, zuP_2, zuP_3, zuC_1, zuC_2, reduceIte, Nat.reduceEqDiff, false_and, and_false, true_and, and_true, and_self, or_true, true_or, or_false, false_or]; omega)⟩
      · skip
        refine zs_aload_n (pc := 202) C dX3_readLine_202 rfl ?_
        refine zVv0 (pc := 203) C dX3_readLine_203 v_X3_51 (c_X3_next hX (by omega)) (by decide) (by decide) ⟨Nat.zero_le _, Nat.zero_le _⟩ (Nat.le_of_ble_eq_true rfl) (fun G203 hp203 => ?_)
        obtain ⟨hz203, hq203⟩ := hp203
        have tr203_704 := zsm_at hz203 704 (Γ.2.1 w 0) 0 (by decide)
        try simp only [zuI_1, zuI_2, zuJ_1, zuJ_2, zuJ_3, zuP_1, zuP_2, zuP_3, zuC_1, zuC_2, reduceIte, Nat.reduceEqDiff, false_and, and_false, true_and, and_true, and_self, or_true, true_or, or_false, false_or] at tr203_704
        have tr203_407 := zsm_at hz203 407 w 0 (by decide)
        try simp only [zuI_1, zuI_2, zuJ_1, zuJ_2, zuJ_3, zuP_1, zuP_2, zuP_3, zuC_1, zuC_2, reduceIte, Nat.reduceEqDiff, false_and, and_false, true_and, and_true, and_self, or_true, true_or, or_false, false_or] at tr203_407
        exact zs_vret (pc := 206) C hr hlk dX3_readLine_206 ⟨by repeat (first | exact zsm_rf | assumption | refine zsm_C (by decide) ?_ | refine zsm_I (by decide) ?_ | refine zsm_J ?_ | refine zsm_c (by assumption) (by decide) ?_), by first | omega | (simp only [zuI_1, zuI_2, zuJ_1, zuJ_2, zuJ_3, zuP_1, zuP_2, zuP_3, zuC_1, zuC_2, reduceIte, Nat.reduceEqDiff, false_and, and_false, true_and, and_true, and_self, or_true, true_or, or_false, false_or]; omega)⟩
    · skip
      refine zs_aload_n (pc := 190) C dX3_readLine_190 rfl ?_
      refine zs_iconst (pc := 191) C dX3_readLine_191 (by decide) ?_
      refine zVv1 (pc := 192) C dX3_readLine_192 v_X3_114 (c_X3_fail hX (by omega) (by omega)) (by decide) (by decide) ⟨Nat.zero_le _, Nat.zero_le _⟩ (Nat.le_of_ble_eq_true rfl) (fun G192 hp192 => ?_)
      obtain ⟨hz192, hq192⟩ := hp192
      have tr192_704 := zsm_at hz192 704 (Γ.2.1 w 0) 0 (by decide)
      try simp only [zuI_1, zuI_2, zuJ_1, zuJ_2, zuJ_3, zuP_1, zuP_2, zuP_3, zuC_1, zuC_2, reduceIte, Nat.reduceEqDiff, false_and, and_false, true_and, and_true, and_self, or_true, true_or, or_false, false_or] at tr192_704
      have tr192_402 := zsm_at hz192 402 w 0 (by decide)
      try simp only [zuI_1, zuI_2, zuJ_1, zuJ_2, zuJ_3, zuP_1, zuP_2, zuP_3, zuC_1, zuC_2, reduceIte, Nat.reduceEqDiff, false_and, and_false, true_and, and_true, and_self, or_true, true_or, or_false, false_or] at tr192_402
      refine zs_aload_n (pc := 195) C dX3_readLine_195 rfl ?_
      refine zs_geti (r := 407) (pc := 196) C dX3_readLine_196 w_X3_38 f_4_7 rfl (r_407 0) (fun v196 e196 l196 u196 => ?_)
      refine zs_if_ne (tgt := 206) (pc := 199) C dX3_readLine_199 (by decide) (fun h199 => ?_) (fun h199 => ?_)
      · skip
        exact zs_vret (pc := 206) C hr hlk dX3_readLine_206 ⟨by repeat (first | exact zsm_rf | assumption | refine zsm_C (by decide) ?_ | refine zsm_I (by decide) ?_ | refine zsm_J ?_ | refine zsm_c (by assumption) (by decide) ?_), by first | omega | (simp only [zuI_1, zuI_2, zuJ_1, zuJ_2, zuJ_3, zuP_1, zuP_2, zuP_3, zuC_1, zuC_2, reduceIte, Nat.reduceEqDiff, false_and, and_false, true_and, and_true, and_self, or_true, true_or, or_false, false_or]; omega)⟩
      · skip
        refine zs_aload_n (pc := 202) C dX3_readLine_202 rfl ?_
        refine zVv0 (pc := 203) C dX3_readLine_203 v_X3_51 (c_X3_next hX (by omega)) (by decide) (by decide) ⟨Nat.zero_le _, Nat.zero_le _⟩ (Nat.le_of_ble_eq_true rfl) (fun G203 hp203 => ?_)
        obtain ⟨hz203, hq203⟩ := hp203
        have tr203_704 := zsm_at hz203 704 (Γ.2.1 w 0) 0 (by decide)
        try simp only [zuI_1, zuI_2, zuJ_1, zuJ_2, zuJ_3, zuP_1, zuP_2, zuP_3, zuC_1, zuC_2, reduceIte, Nat.reduceEqDiff, false_and, and_false, true_and, and_true, and_self, or_true, true_or, or_false, false_or] at tr203_704
        have tr203_407 := zsm_at hz203 407 w 0 (by decide)
        try simp only [zuI_1, zuI_2, zuJ_1, zuJ_2, zuJ_3, zuP_1, zuP_2, zuP_3, zuC_1, zuC_2, reduceIte, Nat.reduceEqDiff, false_and, and_false, true_and, and_true, and_self, or_true, true_or, or_false, false_or] at tr203_407
        exact zs_vret (pc := 206) C hr hlk dX3_readLine_206 ⟨by repeat (first | exact zsm_rf | assumption | refine zsm_C (by decide) ?_ | refine zsm_I (by decide) ?_ | refine zsm_J ?_ | refine zsm_c (by assumption) (by decide) ?_), by first | omega | (simp only [zuI_1, zuI_2, zuJ_1, zuJ_2, zuJ_3, zuP_1, zuP_2, zuP_3, zuC_1, zuC_2, reduceIte, Nat.reduceEqDiff, false_and, and_false, true_and, and_true, and_self, or_true, true_or, or_false, false_or]; omega)⟩
  · skip
    refine zs_tabIn (pc := 4) (tgt := 81) C 4 dX3_readLine_4 h4 (by decide) rfl (by decide) ?_
    refine zs_aload_n (pc := 81) C dX3_readLine_81 rfl ?_
    refine zs_getd (r := 401) (pc := 82) C dX3_readLine_82 w_X3_21 f_4_1 (by decide) rfl (fun v82 e82 t82 => ?_)
    subst e82
    refine zs_aload_n (pc := 85) C dX3_readLine_85 rfl ?_
    refine zs_iconst (pc := 86) C dX3_readLine_86 (by decide) ?_
    refine zs_sipush (pc := 87) C dX3_readLine_87 (by decide) (by decide) ?_
    refine zVi2 (pc := 90) C dX3_readLine_90 v_X3_85 (c_X3_readOnce hX (by omega) (by omega) (by omega)) (by decide) (by decide) ⟨Nat.zero_le _, Nat.zero_le _⟩ (Nat.le_of_ble_eq_true rfl) (fun x90 G90 l90 u90 hp90 => ?_)
    obtain ⟨hz90, hq90⟩ := hp90
    have tr90_704 := zsm_at hz90 704 (Γ.2.1 w 0) 0 (by decide)
    try simp only [zuI_1, zuI_2, zuJ_1, zuJ_2, zuJ_3, zuP_1, zuP_2, zuP_3, zuC_1, zuC_2, reduceIte, Nat.reduceEqDiff, false_and, and_false, true_and, and_true, and_self, or_true, true_or, or_false, false_or] at tr90_704
    refine zs_puti (r := 609) (pc := 93) C dX3_readLine_93 w_X3_89 f_6_9 rfl (r_609 0) (by omega) ?_
    refine zs_goto (tgt := 181) (pc := 96) C dX3_readLine_96 (by decide) ?_
    refine zs_aload_n (pc := 181) C dX3_readLine_181 rfl ?_
    refine zs_bipush (pc := 182) C dX3_readLine_182 (by decide) (by decide) ?_
    refine zVip1 (pc := 184) C dX3_readLine_184 v_X3_117 (c_X3_isSign hX ) (by decide) (by decide) ⟨Nat.zero_le _, Nat.zero_le _⟩ (Nat.le_of_ble_eq_true rfl) (fun x184 l184 u184 hp184 => ?_)
    have hq184 := hp184
    try simp only [zuI_1, zuI_2, zuJ_1, zuJ_2, zuJ_3, zuP_1, zuP_2, zuP_3, zuC_1, zuC_2, reduceIte, Nat.reduceEqDiff, false_and, and_false, true_and, and_true, and_self, or_true, true_or, or_false, false_or] at hq184
    refine zs_if_ne (tgt := 195) (pc := 187) C dX3_readLine_187 (by decide) (fun h187 => ?_) (fun h187 => ?_)
    · skip
      refine zs_aload_n (pc := 195) C dX3_readLine_195 rfl ?_
      refine zs_geti (r := 407) (pc := 196) C dX3_readLine_196 w_X3_38 f_4_7 rfl (r_407 0) (fun v196 e196 l196 u196 => ?_)
      try simp only [zuI_1, zuI_2, zuJ_1, zuJ_2, zuJ_3, zuP_1, zuP_2, zuP_3, zuC_1, zuC_2, reduceIte, Nat.reduceEqDiff, false_and, and_false, true_and, and_true, and_self, or_true, true_or, or_false, false_or] at e196
      refine zs_if_ne (tgt := 206) (pc := 199) C dX3_readLine_199 (by decide) (fun h199 => ?_) (fun h199 => ?_)
      · skip
        exact zs_vret (pc := 206) C hr hlk dX3_readLine_206 ⟨by repeat (first | exact zsm_rf | assumption | refine zsm_C (by decide) ?_ | refine zsm_I (by decide) ?_ | refine zsm_J ?_ | refine zsm_c (by assumption) (by decide) ?_), by first | omega | (simp only [zuI_1, zuI_2, zuJ_1, zuJ_2, zuJ_3, zuP_1, zuP_2, zuP_3, zuC_1, zuC_2, reduceIte, Nat.reduceEqDiff, false_and, and_false, true_and, and_true, and_self, or_true, true_or, or_false, false_or]; omega)⟩
      · skip
        refine zs_aload_n (pc := 202) C dX3_readLine_202 rfl ?_
        refine zVv0 (pc := 203) C dX3_readLine_203 v_X3_51 (c_X3_next hX (by first | omega | (simp only [zuI_1, zuI_2, zuJ_1, zuJ_2, zuJ_3, zuP_1, zuP_2, zuP_3, zuC_1, zuC_2, reduceIte, Nat.reduceEqDiff, false_and, and_false, true_and, and_true, and_self, or_true, true_or, or_false, false_or]; omega))) (by decide) (by decide) ⟨Nat.zero_le _, Nat.zero_le _⟩ (Nat.le_of_ble_eq_true rfl) (fun G203 hp203 => ?_)
        obtain ⟨hz203, hq203⟩ := hp203
        try simp only [zuI_1, zuI_2, zuJ_1, zuJ_2, zuJ_3, zuP_1, zuP_2, zuP_3, zuC_1, zuC_2, reduceIte, Nat.reduceEqDiff, false_and, and_false, true_and, and_true, and_self, or_true, true_or, or_false, false_or] at hq203
        have tr203_704 := zsm_at hz203 704 (Γ.2.1 w 0) 0 (by decide)
        try simp only [zuI_1, zuI_2, zuJ_1, zuJ_2, zuJ_3, zuP_1, zuP_2, zuP_3, zuC_1, zuC_2, reduceIte, Nat.reduceEqDiff, false_and, and_false, true_and, and_true, and_self, or_true, true_or, or_false, false_or] at tr203_704
        have tr203_407 := zsm_at hz203 407 w 0 (by decide)
        try simp only [zuI_1, zuI_2, zuJ_1, zuJ_2, zuJ_3, zuP_1, zuP_2, zuP_3, zuC_1, zuC_2, reduceIte, Nat.reduceEqDiff, false_and, and_false, true_and, and_true, and_self, or_true, true_or, or_false, false_or] at tr203_407
        exact zs_vret (pc := 206) C hr hlk dX3_readLine_206 ⟨by repeat (first | exact zsm_rf | assumption | refine zsm_C (by decide) ?_ | refine zsm_I (by decide) ?_ | refine zsm_J ?_ | refine zsm_c (by assumption) (by decide) ?_), by first | omega | (simp only [zuI_1, zuI_2, zuJ_1, zuJ_2, zuJ_3, zuP_1, zuP_2, zuP_3, zuC_1, zuC_2, reduceIte, Nat.reduceEqDiff, false_and, and_false, true_and, and_true, and_self, or_true, true_or, or_false, false_or]; omega)⟩
    · skip
      refine zs_aload_n (pc := 190) C dX3_readLine_190 rfl ?_
      refine zs_iconst (pc := 191) C dX3_readLine_191 (by decide) ?_
      refine zVv1 (pc := 192) C dX3_readLine_192 v_X3_114 (c_X3_fail hX (by first | omega | (simp only [zuI_1, zuI_2, zuJ_1, zuJ_2, zuJ_3, zuP_1, zuP_2, zuP_3, zuC_1, zuC_2, reduceIte, Nat.reduceEqDiff, false_and, and_false, true_and, and_true, and_self, or_true, true_or, or_false, false_or]; omega)) (by first | omega | (simp only [zuI_1, zuI_2, zuJ_1, zuJ_2, zuJ_3, zuP_1, zuP_2, zuP_3, zuC_1, zuC_2, reduceIte, Nat.reduceEqDiff, false_and, and_false, true_and, and_true, and_self, or_true, true_or, or_false, false_or]; omega))) (by decide) (by decide) ⟨Nat.zero_le _, Nat.zero_le _⟩ (Nat.le_of_ble_eq_true rfl) (fun G192 hp192 => ?_)
      obtain ⟨hz192, hq192⟩ := hp192
      try simp only [zuI_1, zuI_2, zuJ_1, zuJ_2, zuJ_3, zuP_1, zuP_2, zuP_3, zuC_1, zuC_2, reduceIte, Nat.reduceEqDiff, false_and, and_false, true_and, and_true, and_self, or_true, true_or, or_false, false_or] at hq192
      have tr192_704 := zsm_at hz192 704 (Γ.2.1 w 0) 0 (by decide)
      try simp only [zuI_1, zuI_2, zuJ_1, zuJ_2, zuJ_3, zuP_1, zuP_2, zuP_3, zuC_1, zuC_2, reduceIte, Nat.reduceEqDiff, false_and, and_false, true_and, and_true, and_self, or_true, true_or, or_false, false_or] at tr192_704
      have tr192_402 := zsm_at hz192 402 w 0 (by decide)
      try simp only [zuI_1, zuI_2, zuJ_1, zuJ_2, zuJ_3, zuP_1, zuP_2, zuP_3, zuC_1, zuC_2, reduceIte, Nat.reduceEqDiff, false_and, and_false, true_and, and_true, and_self, or_true, true_or, or_false, false_or] at tr192_402
      refine zs_aload_n (pc := 195) C dX3_readLine_195 rfl ?_
      refine zs_geti (r := 407) (pc := 196) C dX3_readLine_196 w_X3_38 f_4_7 rfl (r_407 0) (fun v196 e196 l196 u196 => ?_)
      refine zs_if_ne (tgt := 206) (pc := 199) C dX3_readLine_199 (by decide) (fun h199 => ?_) (fun h199 => ?_)
      · skip
        exact zs_vret (pc := 206) C hr hlk dX3_readLine_206 ⟨by repeat (first | exact zsm_rf | assumption | refine zsm_C (by decide) ?_ | refine zsm_I (by decide) ?_ | refine zsm_J ?_ | refine zsm_c (by assumption) (by decide) ?_), by first | omega | (simp only [zuI_1, zuI_2, zuJ_1, zuJ_2, zuJ_3, zuP_1, zuP_2, zuP_3, zuC_1, zuC_2, reduceIte, Nat.reduceEqDiff, false_and, and_false, true_and, and_true, and_self, or_true, true_or, or_false, false_or]; omega)⟩
      · skip
        refine zs_aload_n (pc := 202) C dX3_readLine_202 rfl ?_
        refine zVv0 (pc := 203) C dX3_readLine_203 v_X3_51 (c_X3_next hX (by omega)) (by decide) (by decide) ⟨Nat.zero_le _, Nat.zero_le _⟩ (Nat.le_of_ble_eq_true rfl) (fun G203 hp203 => ?_)
        obtain ⟨hz203, hq203⟩ := hp203
        have tr203_704 := zsm_at hz203 704 (Γ.2.1 w 0) 0 (by decide)
        try simp only [zuI_1, zuI_2, zuJ_1, zuJ_2, zuJ_3, zuP_1, zuP_2, zuP_3, zuC_1, zuC_2, reduceIte, Nat.reduceEqDiff, false_and, and_false, true_and, and_true, and_self, or_true, true_or, or_false, false_or] at tr203_704
        have tr203_407 := zsm_at hz203 407 w 0 (by decide)
        try simp only [zuI_1, zuI_2, zuJ_1, zuJ_2, zuJ_3, zuP_1, zuP_2, zuP_3, zuC_1, zuC_2, reduceIte, Nat.reduceEqDiff, false_and, and_false, true_and, and_true, and_self, or_true, true_or, or_false, false_or] at tr203_407
        exact zs_vret (pc := 206) C hr hlk dX3_readLine_206 ⟨by repeat (first | exact zsm_rf | assumption | refine zsm_C (by decide) ?_ | refine zsm_I (by decide) ?_ | refine zsm_J ?_ | refine zsm_c (by assumption) (by decide) ?_), by first | omega | (simp only [zuI_1, zuI_2, zuJ_1, zuJ_2, zuJ_3, zuP_1, zuP_2, zuP_3, zuC_1, zuC_2, reduceIte, Nat.reduceEqDiff, false_and, and_false, true_and, and_true, and_self, or_true, true_or, or_false, false_or]; omega)⟩
  · skip
    refine zs_tabIn (pc := 4) (tgt := 99) C 5 dX3_readLine_4 h4 (by decide) rfl (by decide) ?_
    refine zs_aload_n (pc := 99) C dX3_readLine_99 rfl ?_
    refine zs_getd (r := 401) (pc := 100) C dX3_readLine_100 w_X3_21 f_4_1 (by decide) rfl (fun v100 e100 t100 => ?_)
    subst e100
    refine zs_aload_n (pc := 103) C dX3_readLine_103 rfl ?_
    refine zs_iconst (pc := 104) C dX3_readLine_104 (by decide) ?_
    refine zs_bipush (pc := 105) C dX3_readLine_105 (by decide) (by decide) ?_
    refine zVi2 (pc := 107) C dX3_readLine_107 v_X3_85 (c_X3_readOnce hX (by omega) (by omega) (by omega)) (by decide) (by decide) ⟨Nat.zero_le _, Nat.zero_le _⟩ (Nat.le_of_ble_eq_true rfl) (fun x107 G107 l107 u107 hp107 => ?_)
    obtain ⟨hz107, hq107⟩ := hp107
    have tr107_704 := zsm_at hz107 704 (Γ.2.1 w 0) 0 (by decide)
    try simp only [zuI_1, zuI_2, zuJ_1, zuJ_2, zuJ_3, zuP_1, zuP_2, zuP_3, zuC_1, zuC_2, reduceIte, Nat.reduceEqDiff, false_and, and_false, true_and, and_true, and_self, or_true, true_or, or_false, false_or] at tr107_704
    refine zs_puti (r := 610) (pc := 110) C dX3_readLine_110 w_X3_92 f_6_10 rfl (r_610 0) (by omega) ?_
    refine zs_goto (tgt := 181) (pc := 113) C dX3_readLine_113 (by decide) ?_
    refine zs_aload_n (pc := 181) C dX3_readLine_181 rfl ?_
    refine zs_bipush (pc := 182) C dX3_readLine_182 (by decide) (by decide) ?_
    refine zVip1 (pc := 184) C dX3_readLine_184 v_X3_117 (c_X3_isSign hX ) (by decide) (by decide) ⟨Nat.zero_le _, Nat.zero_le _⟩ (Nat.le_of_ble_eq_true rfl) (fun x184 l184 u184 hp184 => ?_)
    have hq184 := hp184
    try simp only [zuI_1, zuI_2, zuJ_1, zuJ_2, zuJ_3, zuP_1, zuP_2, zuP_3, zuC_1, zuC_2, reduceIte, Nat.reduceEqDiff, false_and, and_false, true_and, and_true, and_self, or_true, true_or, or_false, false_or] at hq184
    refine zs_if_ne (tgt := 195) (pc := 187) C dX3_readLine_187 (by decide) (fun h187 => ?_) (fun h187 => ?_)
    · skip
      refine zs_aload_n (pc := 195) C dX3_readLine_195 rfl ?_
      refine zs_geti (r := 407) (pc := 196) C dX3_readLine_196 w_X3_38 f_4_7 rfl (r_407 0) (fun v196 e196 l196 u196 => ?_)
      try simp only [zuI_1, zuI_2, zuJ_1, zuJ_2, zuJ_3, zuP_1, zuP_2, zuP_3, zuC_1, zuC_2, reduceIte, Nat.reduceEqDiff, false_and, and_false, true_and, and_true, and_self, or_true, true_or, or_false, false_or] at e196
      refine zs_if_ne (tgt := 206) (pc := 199) C dX3_readLine_199 (by decide) (fun h199 => ?_) (fun h199 => ?_)
      · skip
        exact zs_vret (pc := 206) C hr hlk dX3_readLine_206 ⟨by repeat (first | exact zsm_rf | assumption | refine zsm_C (by decide) ?_ | refine zsm_I (by decide) ?_ | refine zsm_J ?_ | refine zsm_c (by assumption) (by decide) ?_), by first | omega | (simp only [zuI_1, zuI_2, zuJ_1, zuJ_2, zuJ_3, zuP_1, zuP_2, zuP_3, zuC_1, zuC_2, reduceIte, Nat.reduceEqDiff, false_and, and_false, true_and, and_true, and_self, or_true, true_or, or_false, false_or]; omega)⟩
      · skip
        refine zs_aload_n (pc := 202) C dX3_readLine_202 rfl ?_
        refine zVv0 (pc := 203) C dX3_readLine_203 v_X3_51 (c_X3_next hX (by first | omega | (simp only [zuI_1, zuI_2, zuJ_1, zuJ_2, zuJ_3, zuP_1, zuP_2, zuP_3, zuC_1, zuC_2, reduceIte, Nat.reduceEqDiff, false_and, and_false, true_and, and_true, and_self, or_true, true_or, or_false, false_or]; omega))) (by decide) (by decide) ⟨Nat.zero_le _, Nat.zero_le _⟩ (Nat.le_of_ble_eq_true rfl) (fun G203 hp203 => ?_)
        obtain ⟨hz203, hq203⟩ := hp203
        try simp only [zuI_1, zuI_2, zuJ_1, zuJ_2, zuJ_3, zuP_1, zuP_2, zuP_3, zuC_1, zuC_2, reduceIte, Nat.reduceEqDiff, false_and, and_false, true_and, and_true, and_self, or_true, true_or, or_false, false_or] at hq203
        have tr203_704 := zsm_at hz203 704 (Γ.2.1 w 0) 0 (by decide)
        try simp only [zuI_1, zuI_2, zuJ_1, zuJ_2, zuJ_3, zuP_1, zuP_2, zuP_3, zuC_1, zuC_2, reduceIte, Nat.reduceEqDiff, false_and, and_false, true_and, and_true, and_self, or_true, true_or, or_false, false_or] at tr203_704
        have tr203_407 := zsm_at hz203 407 w 0 (by decide)
        try simp only [zuI_1, zuI_2, zuJ_1, zuJ_2, zuJ_3, zuP_1, zuP_2, zuP_3, zuC_1, zuC_2, reduceIte, Nat.reduceEqDiff, false_and, and_false, true_and, and_true, and_self, or_true, true_or, or_false, false_or] at tr203_407
        exact zs_vret (pc := 206) C hr hlk dX3_readLine_206 ⟨by repeat (first | exact zsm_rf | assumption | refine zsm_C (by decide) ?_ | refine zsm_I (by decide) ?_ | refine zsm_J ?_ | refine zsm_c (by assumption) (by decide) ?_), by first | omega | (simp only [zuI_1, zuI_2, zuJ_1, zuJ_2, zuJ_3, zuP_1, zuP_2, zuP_3, zuC_1, zuC_2, reduceIte, Nat.reduceEqDiff, false_and, and_false, true_and, and_true, and_self, or_true, true_or, or_false, false_or]; omega)⟩
    · skip
      refine zs_aload_n (pc := 190) C dX3_readLine_190 rfl ?_
      refine zs_iconst (pc := 191) C dX3_readLine_191 (by decide) ?_
      refine zVv1 (pc := 192) C dX3_readLine_192 v_X3_114 (c_X3_fail hX (by first | omega | (simp only [zuI_1, zuI_2, zuJ_1, zuJ_2, zuJ_3, zuP_1, zuP_2, zuP_3, zuC_1, zuC_2, reduceIte, Nat.reduceEqDiff, false_and, and_false, true_and, and_true, and_self, or_true, true_or, or_false, false_or]; omega)) (by first | omega | (simp only [zuI_1, zuI_2, zuJ_1, zuJ_2, zuJ_3, zuP_1, zuP_2, zuP_3, zuC_1, zuC_2, reduceIte, Nat.reduceEqDiff, false_and, and_false, true_and, and_true, and_self, or_true, true_or, or_false, false_or]; omega))) (by decide) (by decide) ⟨Nat.zero_le _, Nat.zero_le _⟩ (Nat.le_of_ble_eq_true rfl) (fun G192 hp192 => ?_)
      obtain ⟨hz192, hq192⟩ := hp192
      try simp only [zuI_1, zuI_2, zuJ_1, zuJ_2, zuJ_3, zuP_1, zuP_2, zuP_3, zuC_1, zuC_2, reduceIte, Nat.reduceEqDiff, false_and, and_false, true_and, and_true, and_self, or_true, true_or, or_false, false_or] at hq192
      have tr192_704 := zsm_at hz192 704 (Γ.2.1 w 0) 0 (by decide)
      try simp only [zuI_1, zuI_2, zuJ_1, zuJ_2, zuJ_3, zuP_1, zuP_2, zuP_3, zuC_1, zuC_2, reduceIte, Nat.reduceEqDiff, false_and, and_false, true_and, and_true, and_self, or_true, true_or, or_false, false_or] at tr192_704
      have tr192_402 := zsm_at hz192 402 w 0 (by decide)
      try simp only [zuI_1, zuI_2, zuJ_1, zuJ_2, zuJ_3, zuP_1, zuP_2, zuP_3, zuC_1, zuC_2, reduceIte, Nat.reduceEqDiff, false_and, and_false, true_and, and_true, and_self, or_true, true_or, or_false, false_or] at tr192_402
      refine zs_aload_n (pc := 195) C dX3_readLine_195 rfl ?_
      refine zs_geti (r := 407) (pc := 196) C dX3_readLine_196 w_X3_38 f_4_7 rfl (r_407 0) (fun v196 e196 l196 u196 => ?_)
      refine zs_if_ne (tgt := 206) (pc := 199) C dX3_readLine_199 (by decide) (fun h199 => ?_) (fun h199 => ?_)
      · skip
        exact zs_vret (pc := 206) C hr hlk dX3_readLine_206 ⟨by repeat (first | exact zsm_rf | assumption | refine zsm_C (by decide) ?_ | refine zsm_I (by decide) ?_ | refine zsm_J ?_ | refine zsm_c (by assumption) (by decide) ?_), by first | omega | (simp only [zuI_1, zuI_2, zuJ_1, zuJ_2, zuJ_3, zuP_1, zuP_2, zuP_3, zuC_1, zuC_2, reduceIte, Nat.reduceEqDiff, false_and, and_false, true_and, and_true, and_self, or_true, true_or, or_false, false_or]; omega)⟩
      · skip
        refine zs_aload_n (pc := 202) C dX3_readLine_202 rfl ?_
        refine zVv0 (pc := 203) C dX3_readLine_203 v_X3_51 (c_X3_next hX (by omega)) (by decide) (by decide) ⟨Nat.zero_le _, Nat.zero_le _⟩ (Nat.le_of_ble_eq_true rfl) (fun G203 hp203 => ?_)
        obtain ⟨hz203, hq203⟩ := hp203
        have tr203_704 := zsm_at hz203 704 (Γ.2.1 w 0) 0 (by decide)
        try simp only [zuI_1, zuI_2, zuJ_1, zuJ_2, zuJ_3, zuP_1, zuP_2, zuP_3, zuC_1, zuC_2, reduceIte, Nat.reduceEqDiff, false_and, and_false, true_and, and_true, and_self, or_true, true_or, or_false, false_or] at tr203_704
        have tr203_407 := zsm_at hz203 407 w 0 (by decide)
        try simp only [zuI_1, zuI_2, zuJ_1, zuJ_2, zuJ_3, zuP_1, zuP_2, zuP_3, zuC_1, zuC_2, reduceIte, Nat.reduceEqDiff, false_and, and_false, true_and, and_true, and_self, or_true, true_or, or_false, false_or] at tr203_407
        exact zs_vret (pc := 206) C hr hlk dX3_readLine_206 ⟨by repeat (first | exact zsm_rf | assumption | refine zsm_C (by decide) ?_ | refine zsm_I (by decide) ?_ | refine zsm_J ?_ | refine zsm_c (by assumption) (by decide) ?_), by first | omega | (simp only [zuI_1, zuI_2, zuJ_1, zuJ_2, zuJ_3, zuP_1, zuP_2, zuP_3, zuC_1, zuC_2, reduceIte, Nat.reduceEqDiff, false_and, and_false, true_and, and_true, and_self, or_true, true_or, or_false, false_or]; omega)⟩
  · skip
    refine zs_tabIn (pc := 4) (tgt := 116) C 6 dX3_readLine_4 h4 (by decide) rfl (by decide) ?_
    refine zs_aload_n (pc := 116) C dX3_readLine_116 rfl ?_
    refine zs_getd (r := 401) (pc := 117) C dX3_readLine_117 w_X3_21 f_4_1 (by decide) rfl (fun v117 e117 t117 => ?_)
    subst e117
    refine zs_aload_n (pc := 120) C dX3_readLine_120 rfl ?_
    refine zs_iconst (pc := 121) C dX3_readLine_121 (by decide) ?_
    refine zs_sipush (pc := 122) C dX3_readLine_122 (by decide) (by decide) ?_
    refine zVi2 (pc := 125) C dX3_readLine_125 v_X3_85 (c_X3_readOnce hX (by omega) (by omega) (by omega)) (by decide) (by decide) ⟨Nat.zero_le _, Nat.zero_le _⟩ (Nat.le_of_ble_eq_true rfl) (fun x125 G125 l125 u125 hp125 => ?_)
    obtain ⟨hz125, hq125⟩ := hp125
    have tr125_704 := zsm_at hz125 704 (Γ.2.1 w 0) 0 (by decide)
    try simp only [zuI_1, zuI_2, zuJ_1, zuJ_2, zuJ_3, zuP_1, zuP_2, zuP_3, zuC_1, zuC_2, reduceIte, Nat.reduceEqDiff, false_and, and_false, true_and, and_true, and_self, or_true, true_or, or_false, false_or] at tr125_704
    refine zs_puti (r := 611) (pc := 128) C dX3_readLine_128 w_X3_95 f_6_11 rfl (r_611 0) (by omega) ?_
    refine zs_goto (tgt := 181) (pc := 131) C dX3_readLine_131 (by decide) ?_
    refine zs_aload_n (pc := 181) C dX3_readLine_181 rfl ?_
    refine zs_bipush (pc := 182) C dX3_readLine_182 (by decide) (by decide) ?_
    refine zVip1 (pc := 184) C dX3_readLine_184 v_X3_117 (c_X3_isSign hX ) (by decide) (by decide) ⟨Nat.zero_le _, Nat.zero_le _⟩ (Nat.le_of_ble_eq_true rfl) (fun x184 l184 u184 hp184 => ?_)
    have hq184 := hp184
    try simp only [zuI_1, zuI_2, zuJ_1, zuJ_2, zuJ_3, zuP_1, zuP_2, zuP_3, zuC_1, zuC_2, reduceIte, Nat.reduceEqDiff, false_and, and_false, true_and, and_true, and_self, or_true, true_or, or_false, false_or] at hq184
    refine zs_if_ne (tgt := 195) (pc := 187) C dX3_readLine_187 (by decide) (fun h187 => ?_) (fun h187 => ?_)
    · skip
      refine zs_aload_n (pc := 195) C dX3_readLine_195 rfl ?_
      refine zs_geti (r := 407) (pc := 196) C dX3_readLine_196 w_X3_38 f_4_7 rfl (r_407 0) (fun v196 e196 l196 u196 => ?_)
      try simp only [zuI_1, zuI_2, zuJ_1, zuJ_2, zuJ_3, zuP_1, zuP_2, zuP_3, zuC_1, zuC_2, reduceIte, Nat.reduceEqDiff, false_and, and_false, true_and, and_true, and_self, or_true, true_or, or_false, false_or] at e196
      refine zs_if_ne (tgt := 206) (pc := 199) C dX3_readLine_199 (by decide) (fun h199 => ?_) (fun h199 => ?_)
      · skip
        exact zs_vret (pc := 206) C hr hlk dX3_readLine_206 ⟨by repeat (first | exact zsm_rf | assumption | refine zsm_C (by decide) ?_ | refine zsm_I (by decide) ?_ | refine zsm_J ?_ | refine zsm_c (by assumption) (by decide) ?_), by first | omega | (simp only [zuI_1, zuI_2, zuJ_1, zuJ_2, zuJ_3, zuP_1, zuP_2, zuP_3, zuC_1, zuC_2, reduceIte, Nat.reduceEqDiff, false_and, and_false, true_and, and_true, and_self, or_true, true_or, or_false, false_or]; omega)⟩
      · skip
        refine zs_aload_n (pc := 202) C dX3_readLine_202 rfl ?_
        refine zVv0 (pc := 203) C dX3_readLine_203 v_X3_51 (c_X3_next hX (by first | omega | (simp only [zuI_1, zuI_2, zuJ_1, zuJ_2, zuJ_3, zuP_1, zuP_2, zuP_3, zuC_1, zuC_2, reduceIte, Nat.reduceEqDiff, false_and, and_false, true_and, and_true, and_self, or_true, true_or, or_false, false_or]; omega))) (by decide) (by decide) ⟨Nat.zero_le _, Nat.zero_le _⟩ (Nat.le_of_ble_eq_true rfl) (fun G203 hp203 => ?_)
        obtain ⟨hz203, hq203⟩ := hp203
        try simp only [zuI_1, zuI_2, zuJ_1, zuJ_2, zuJ_3, zuP_1, zuP_2, zuP_3, zuC_1, zuC_2, reduceIte, Nat.reduceEqDiff, false_and, and_false, true_and, and_true, and_self, or_true, true_or, or_false, false_or] at hq203
        have tr203_704 := zsm_at hz203 704 (Γ.2.1 w 0) 0 (by decide)
        try simp only [zuI_1, zuI_2, zuJ_1, zuJ_2, zuJ_3, zuP_1, zuP_2, zuP_3, zuC_1, zuC_2, reduceIte, Nat.reduceEqDiff, false_and, and_false, true_and, and_true, and_self, or_true, true_or, or_false, false_or] at tr203_704
        have tr203_407 := zsm_at hz203 407 w 0 (by decide)
        try simp only [zuI_1, zuI_2, zuJ_1, zuJ_2, zuJ_3, zuP_1, zuP_2, zuP_3, zuC_1, zuC_2, reduceIte, Nat.reduceEqDiff, false_and, and_false, true_and, and_true, and_self, or_true, true_or, or_false, false_or] at tr203_407
        exact zs_vret (pc := 206) C hr hlk dX3_readLine_206 ⟨by repeat (first | exact zsm_rf | assumption | refine zsm_C (by decide) ?_ | refine zsm_I (by decide) ?_ | refine zsm_J ?_ | refine zsm_c (by assumption) (by decide) ?_), by first | omega | (simp only [zuI_1, zuI_2, zuJ_1, zuJ_2, zuJ_3, zuP_1, zuP_2, zuP_3, zuC_1, zuC_2, reduceIte, Nat.reduceEqDiff, false_and, and_false, true_and, and_true, and_self, or_true, true_or, or_false, false_or]; omega)⟩
    · skip
      refine zs_aload_n (pc := 190) C dX3_readLine_190 rfl ?_
      refine zs_iconst (pc := 191) C dX3_readLine_191 (by decide) ?_
      refine zVv1 (pc := 192) C dX3_readLine_192 v_X3_114 (c_X3_fail hX (by first | omega | (simp only [zuI_1, zuI_2, zuJ_1, zuJ_2, zuJ_3, zuP_1, zuP_2, zuP_3, zuC_1, zuC_2, reduceIte, Nat.reduceEqDiff, false_and, and_false, true_and, and_true, and_self, or_true, true_or, or_false, false_or]; omega)) (by first | omega | (simp only [zuI_1, zuI_2, zuJ_1, zuJ_2, zuJ_3, zuP_1, zuP_2, zuP_3, zuC_1, zuC_2, reduceIte, Nat.reduceEqDiff, false_and, and_false, true_and, and_true, and_self, or_true, true_or, or_false, false_or]; omega))) (by decide) (by decide) ⟨Nat.zero_le _, Nat.zero_le _⟩ (Nat.le_of_ble_eq_true rfl) (fun G192 hp192 => ?_)
      obtain ⟨hz192, hq192⟩ := hp192
      try simp only [zuI_1, zuI_2, zuJ_1, zuJ_2, zuJ_3, zuP_1, zuP_2, zuP_3, zuC_1, zuC_2, reduceIte, Nat.reduceEqDiff, false_and, and_false, true_and, and_true, and_self, or_true, true_or, or_false, false_or] at hq192
      have tr192_704 := zsm_at hz192 704 (Γ.2.1 w 0) 0 (by decide)
      try simp only [zuI_1, zuI_2, zuJ_1, zuJ_2, zuJ_3, zuP_1, zuP_2, zuP_3, zuC_1, zuC_2, reduceIte, Nat.reduceEqDiff, false_and, and_false, true_and, and_true, and_self, or_true, true_or, or_false, false_or] at tr192_704
      have tr192_402 := zsm_at hz192 402 w 0 (by decide)
      try simp only [zuI_1, zuI_2, zuJ_1, zuJ_2, zuJ_3, zuP_1, zuP_2, zuP_3, zuC_1, zuC_2, reduceIte, Nat.reduceEqDiff, false_and, and_false, true_and, and_true, and_self, or_true, true_or, or_false, false_or] at tr192_402
      refine zs_aload_n (pc := 195) C dX3_readLine_195 rfl ?_
      refine zs_geti (r := 407) (pc := 196) C dX3_readLine_196 w_X3_38 f_4_7 rfl (r_407 0) (fun v196 e196 l196 u196 => ?_)
      refine zs_if_ne (tgt := 206) (pc := 199) C dX3_readLine_199 (by decide) (fun h199 => ?_) (fun h199 => ?_)
      · skip
        exact zs_vret (pc := 206) C hr hlk dX3_readLine_206 ⟨by repeat (first | exact zsm_rf | assumption | refine zsm_C (by decide) ?_ | refine zsm_I (by decide) ?_ | refine zsm_J ?_ | refine zsm_c (by assumption) (by decide) ?_), by first | omega | (simp only [zuI_1, zuI_2, zuJ_1, zuJ_2, zuJ_3, zuP_1, zuP_2, zuP_3, zuC_1, zuC_2, reduceIte, Nat.reduceEqDiff, false_and, and_false, true_and, and_true, and_self, or_true, true_or, or_false, false_or]; omega)⟩
      · skip
        refine zs_aload_n (pc := 202) C dX3_readLine_202 rfl ?_
        refine zVv0 (pc := 203) C dX3_readLine_203 v_X3_51 (c_X3_next hX (by omega)) (by decide) (by decide) ⟨Nat.zero_le _, Nat.zero_le _⟩ (Nat.le_of_ble_eq_true rfl) (fun G203 hp203 => ?_)
        obtain ⟨hz203, hq203⟩ := hp203
        have tr203_704 := zsm_at hz203 704 (Γ.2.1 w 0) 0 (by decide)
        try simp only [zuI_1, zuI_2, zuJ_1, zuJ_2, zuJ_3, zuP_1, zuP_2, zuP_3, zuC_1, zuC_2, reduceIte, Nat.reduceEqDiff, false_and, and_false, true_and, and_true, and_self, or_true, true_or, or_false, false_or] at tr203_704
        have tr203_407 := zsm_at hz203 407 w 0 (by decide)
        try simp only [zuI_1, zuI_2, zuJ_1, zuJ_2, zuJ_3, zuP_1, zuP_2, zuP_3, zuC_1, zuC_2, reduceIte, Nat.reduceEqDiff, false_and, and_false, true_and, and_true, and_self, or_true, true_or, or_false, false_or] at tr203_407
        exact zs_vret (pc := 206) C hr hlk dX3_readLine_206 ⟨by repeat (first | exact zsm_rf | assumption | refine zsm_C (by decide) ?_ | refine zsm_I (by decide) ?_ | refine zsm_J ?_ | refine zsm_c (by assumption) (by decide) ?_), by first | omega | (simp only [zuI_1, zuI_2, zuJ_1, zuJ_2, zuJ_3, zuP_1, zuP_2, zuP_3, zuC_1, zuC_2, reduceIte, Nat.reduceEqDiff, false_and, and_false, true_and, and_true, and_self, or_true, true_or, or_false, false_or]; omega)⟩
  · skip
    refine zs_tabIn (pc := 4) (tgt := 134) C 7 dX3_readLine_4 h4 (by decide) rfl (by decide) ?_
    refine zs_aload_n (pc := 134) C dX3_readLine_134 rfl ?_
    refine zs_getd (r := 401) (pc := 135) C dX3_readLine_135 w_X3_21 f_4_1 (by decide) rfl (fun v135 e135 t135 => ?_)
    subst e135
    refine zs_aload_n (pc := 138) C dX3_readLine_138 rfl ?_
    refine zs_iconst (pc := 139) C dX3_readLine_139 (by decide) ?_
    refine zs_ldc (n := 99999) (pc := 140) C dX3_readLine_140 q_X3_98 (by decide) (by decide) ?_
    refine zVi2 (pc := 142) C dX3_readLine_142 v_X3_85 (c_X3_readOnce hX (by omega) (by omega) (by omega)) (by decide) (by decide) ⟨Nat.zero_le _, Nat.zero_le _⟩ (Nat.le_of_ble_eq_true rfl) (fun x142 G142 l142 u142 hp142 => ?_)
    obtain ⟨hz142, hq142⟩ := hp142
    have tr142_704 := zsm_at hz142 704 (Γ.2.1 w 0) 0 (by decide)
    try simp only [zuI_1, zuI_2, zuJ_1, zuJ_2, zuJ_3, zuP_1, zuP_2, zuP_3, zuC_1, zuC_2, reduceIte, Nat.reduceEqDiff, false_and, and_false, true_and, and_true, and_self, or_true, true_or, or_false, false_or] at tr142_704
    refine zs_puti (r := 612) (pc := 145) C dX3_readLine_145 w_X3_99 f_6_12 rfl (r_612 0) (by omega) ?_
    refine zs_goto (tgt := 181) (pc := 148) C dX3_readLine_148 (by decide) ?_
    refine zs_aload_n (pc := 181) C dX3_readLine_181 rfl ?_
    refine zs_bipush (pc := 182) C dX3_readLine_182 (by decide) (by decide) ?_
    refine zVip1 (pc := 184) C dX3_readLine_184 v_X3_117 (c_X3_isSign hX ) (by decide) (by decide) ⟨Nat.zero_le _, Nat.zero_le _⟩ (Nat.le_of_ble_eq_true rfl) (fun x184 l184 u184 hp184 => ?_)
    have hq184 := hp184
    try simp only [zuI_1, zuI_2, zuJ_1, zuJ_2, zuJ_3, zuP_1, zuP_2, zuP_3, zuC_1, zuC_2, reduceIte, Nat.reduceEqDiff, false_and, and_false, true_and, and_true, and_self, or_true, true_or, or_false, false_or] at hq184
    refine zs_if_ne (tgt := 195) (pc := 187) C dX3_readLine_187 (by decide) (fun h187 => ?_) (fun h187 => ?_)
    · skip
      refine zs_aload_n (pc := 195) C dX3_readLine_195 rfl ?_
      refine zs_geti (r := 407) (pc := 196) C dX3_readLine_196 w_X3_38 f_4_7 rfl (r_407 0) (fun v196 e196 l196 u196 => ?_)
      try simp only [zuI_1, zuI_2, zuJ_1, zuJ_2, zuJ_3, zuP_1, zuP_2, zuP_3, zuC_1, zuC_2, reduceIte, Nat.reduceEqDiff, false_and, and_false, true_and, and_true, and_self, or_true, true_or, or_false, false_or] at e196
      refine zs_if_ne (tgt := 206) (pc := 199) C dX3_readLine_199 (by decide) (fun h199 => ?_) (fun h199 => ?_)
      · skip
        exact zs_vret (pc := 206) C hr hlk dX3_readLine_206 ⟨by repeat (first | exact zsm_rf | assumption | refine zsm_C (by decide) ?_ | refine zsm_I (by decide) ?_ | refine zsm_J ?_ | refine zsm_c (by assumption) (by decide) ?_), by first | omega | (simp only [zuI_1, zuI_2, zuJ_1, zuJ_2, zuJ_3, zuP_1, zuP_2, zuP_3, zuC_1, zuC_2, reduceIte, Nat.reduceEqDiff, false_and, and_false, true_and, and_true, and_self, or_true, true_or, or_false, false_or]; omega)⟩
      · skip
        refine zs_aload_n (pc := 202) C dX3_readLine_202 rfl ?_
        refine zVv0 (pc := 203) C dX3_readLine_203 v_X3_51 (c_X3_next hX (by first | omega | (simp only [zuI_1, zuI_2, zuJ_1, zuJ_2, zuJ_3, zuP_1, zuP_2, zuP_3, zuC_1, zuC_2, reduceIte, Nat.reduceEqDiff, false_and, and_false, true_and, and_true, and_self, or_true, true_or, or_false, false_or]; omega))) (by decide) (by decide) ⟨Nat.zero_le _, Nat.zero_le _⟩ (Nat.le_of_ble_eq_true rfl) (fun G203 hp203 => ?_)
        obtain ⟨hz203, hq203⟩ := hp203
        try simp only [zuI_1, zuI_2, zuJ_1, zuJ_2, zuJ_3, zuP_1, zuP_2, zuP_3, zuC_1, zuC_2, reduceIte, Nat.reduceEqDiff, false_and, and_false, true_and, and_true, and_self, or_true, true_or, or_false, false_or] at hq203
        have tr203_704 := zsm_at hz203 704 (Γ.2.1 w 0) 0 (by decide)
        try simp only [zuI_1, zuI_2, zuJ_1, zuJ_2, zuJ_3, zuP_1, zuP_2, zuP_3, zuC_1, zuC_2, reduceIte, Nat.reduceEqDiff, false_and, and_false, true_and, and_true, and_self, or_true, true_or, or_false, false_or] at tr203_704
        have tr203_407 := zsm_at hz203 407 w 0 (by decide)
        try simp only [zuI_1, zuI_2, zuJ_1, zuJ_2, zuJ_3, zuP_1, zuP_2, zuP_3, zuC_1, zuC_2, reduceIte, Nat.reduceEqDiff, false_and, and_false, true_and, and_true, and_self, or_true, true_or, or_false, false_or] at tr203_407
        exact zs_vret (pc := 206) C hr hlk dX3_readLine_206 ⟨by repeat (first | exact zsm_rf | assumption | refine zsm_C (by decide) ?_ | refine zsm_I (by decide) ?_ | refine zsm_J ?_ | refine zsm_c (by assumption) (by decide) ?_), by first | omega | (simp only [zuI_1, zuI_2, zuJ_1, zuJ_2, zuJ_3, zuP_1, zuP_2, zuP_3, zuC_1, zuC_2, reduceIte, Nat.reduceEqDiff, false_and, and_false, true_and, and_true, and_self, or_true, true_or, or_false, false_or]; omega)⟩
    · skip
      refine zs_aload_n (pc := 190) C dX3_readLine_190 rfl ?_
      refine zs_iconst (pc := 191) C dX3_readLine_191 (by decide) ?_
      refine zVv1 (pc := 192) C dX3_readLine_192 v_X3_114 (c_X3_fail hX (by first | omega | (simp only [zuI_1, zuI_2, zuJ_1, zuJ_2, zuJ_3, zuP_1, zuP_2, zuP_3, zuC_1, zuC_2, reduceIte, Nat.reduceEqDiff, false_and, and_false, true_and, and_true, and_self, or_true, true_or, or_false, false_or]; omega)) (by first | omega | (simp only [zuI_1, zuI_2, zuJ_1, zuJ_2, zuJ_3, zuP_1, zuP_2, zuP_3, zuC_1, zuC_2, reduceIte, Nat.reduceEqDiff, false_and, and_false, true_and, and_true, and_self, or_true, true_or, or_false, false_or]; omega))) (by decide) (by decide) ⟨Nat.zero_le _, Nat.zero_le _⟩ (Nat.le_of_ble_eq_true rfl) (fun G192 hp192 => ?_)
      obtain ⟨hz192, hq192⟩ := hp192
      try simp only [zuI_1, zuI_2, zuJ_1, zuJ_2, zuJ_3, zuP_1, zuP_2, zuP_3, zuC_1, zuC_2, reduceIte, Nat.reduceEqDiff, false_and, and_false, true_and, and_true, and_self, or_true, true_or, or_false, false_or] at hq192
      have tr192_704 := zsm_at hz192 704 (Γ.2.1 w 0) 0 (by decide)
      try simp only [zuI_1, zuI_2, zuJ_1, zuJ_2, zuJ_3, zuP_1, zuP_2, zuP_3, zuC_1, zuC_2, reduceIte, Nat.reduceEqDiff, false_and, and_false, true_and, and_true, and_self, or_true, true_or, or_false, false_or] at tr192_704
      have tr192_402 := zsm_at hz192 402 w 0 (by decide)
      try simp only [zuI_1, zuI_2, zuJ_1, zuJ_2, zuJ_3, zuP_1, zuP_2, zuP_3, zuC_1, zuC_2, reduceIte, Nat.reduceEqDiff, false_and, and_false, true_and, and_true, and_self, or_true, true_or, or_false, false_or] at tr192_402
      refine zs_aload_n (pc := 195) C dX3_readLine_195 rfl ?_
      refine zs_geti (r := 407) (pc := 196) C dX3_readLine_196 w_X3_38 f_4_7 rfl (r_407 0) (fun v196 e196 l196 u196 => ?_)
      refine zs_if_ne (tgt := 206) (pc := 199) C dX3_readLine_199 (by decide) (fun h199 => ?_) (fun h199 => ?_)
      · skip
        exact zs_vret (pc := 206) C hr hlk dX3_readLine_206 ⟨by repeat (first | exact zsm_rf | assumption | refine zsm_C (by decide) ?_ | refine zsm_I (by decide) ?_ | refine zsm_J ?_ | refine zsm_c (by assumption) (by decide) ?_), by first | omega | (simp only [zuI_1, zuI_2, zuJ_1, zuJ_2, zuJ_3, zuP_1, zuP_2, zuP_3, zuC_1, zuC_2, reduceIte, Nat.reduceEqDiff, false_and, and_false, true_and, and_true, and_self, or_true, true_or, or_false, false_or]; omega)⟩
      · skip
        refine zs_aload_n (pc := 202) C dX3_readLine_202 rfl ?_
        refine zVv0 (pc := 203) C dX3_readLine_203 v_X3_51 (c_X3_next hX (by omega)) (by decide) (by decide) ⟨Nat.zero_le _, Nat.zero_le _⟩ (Nat.le_of_ble_eq_true rfl) (fun G203 hp203 => ?_)
        obtain ⟨hz203, hq203⟩ := hp203
        have tr203_704 := zsm_at hz203 704 (Γ.2.1 w 0) 0 (by decide)
        try simp only [zuI_1, zuI_2, zuJ_1, zuJ_2, zuJ_3, zuP_1, zuP_2, zuP_3, zuC_1, zuC_2, reduceIte, Nat.reduceEqDiff, false_and, and_false, true_and, and_true, and_self, or_true, true_or, or_false, false_or] at tr203_704
        have tr203_407 := zsm_at hz203 407 w 0 (by decide)
        try simp only [zuI_1, zuI_2, zuJ_1, zuJ_2, zuJ_3, zuP_1, zuP_2, zuP_3, zuC_1, zuC_2, reduceIte, Nat.reduceEqDiff, false_and, and_false, true_and, and_true, and_self, or_true, true_or, or_false, false_or] at tr203_407
        exact zs_vret (pc := 206) C hr hlk dX3_readLine_206 ⟨by repeat (first | exact zsm_rf | assumption | refine zsm_C (by decide) ?_ | refine zsm_I (by decide) ?_ | refine zsm_J ?_ | refine zsm_c (by assumption) (by decide) ?_), by first | omega | (simp only [zuI_1, zuI_2, zuJ_1, zuJ_2, zuJ_3, zuP_1, zuP_2, zuP_3, zuC_1, zuC_2, reduceIte, Nat.reduceEqDiff, false_and, and_false, true_and, and_true, and_self, or_true, true_or, or_false, false_or]; omega)⟩
  · skip
    refine zs_tabIn (pc := 4) (tgt := 151) C 8 dX3_readLine_4 h4 (by decide) rfl (by decide) ?_
    refine zs_aload_n (pc := 151) C dX3_readLine_151 rfl ?_
    refine zs_aload_n (pc := 152) C dX3_readLine_152 rfl ?_
    refine zVi0 (pc := 153) C dX3_readLine_153 v_X3_102 (c_X3_readKind hX (by omega) (by omega)) (by decide) (by decide) ⟨Nat.zero_le _, Nat.zero_le _⟩ (Nat.le_of_ble_eq_true rfl) (fun x153 G153 l153 u153 hp153 => ?_)
    obtain ⟨hz153, hq153⟩ := hp153
    have tr153_704 := zsm_at hz153 704 (Γ.2.1 w 0) 0 (by decide)
    try simp only [zuI_1, zuI_2, zuJ_1, zuJ_2, zuJ_3, zuP_1, zuP_2, zuP_3, zuC_1, zuC_2, reduceIte, Nat.reduceEqDiff, false_and, and_false, true_and, and_true, and_self, or_true, true_or, or_false, false_or] at tr153_704
    refine zVv1 (pc := 156) C dX3_readLine_156 v_X3_106 (c_X3_readE hX (by omega) (by omega)) (by decide) (by decide) ⟨Nat.zero_le _, Nat.zero_le _⟩ (Nat.le_of_ble_eq_true rfl) (fun G156 hp156 => ?_)
    obtain ⟨hz156, hq156⟩ := hp156
    have tr156_704 := zsm_at hz156 704 (Γ.2.1 w 0) 0 (by decide)
    try simp only [zuI_1, zuI_2, zuJ_1, zuJ_2, zuJ_3, zuP_1, zuP_2, zuP_3, zuC_1, zuC_2, reduceIte, Nat.reduceEqDiff, false_and, and_false, true_and, and_true, and_self, or_true, true_or, or_false, false_or] at tr156_704
    refine zs_goto (tgt := 181) (pc := 159) C dX3_readLine_159 (by decide) ?_
    refine zs_aload_n (pc := 181) C dX3_readLine_181 rfl ?_
    refine zs_bipush (pc := 182) C dX3_readLine_182 (by decide) (by decide) ?_
    refine zVip1 (pc := 184) C dX3_readLine_184 v_X3_117 (c_X3_isSign hX ) (by decide) (by decide) ⟨Nat.zero_le _, Nat.zero_le _⟩ (Nat.le_of_ble_eq_true rfl) (fun x184 l184 u184 hp184 => ?_)
    have hq184 := hp184
    refine zs_if_ne (tgt := 195) (pc := 187) C dX3_readLine_187 (by decide) (fun h187 => ?_) (fun h187 => ?_)
    · skip
      refine zs_aload_n (pc := 195) C dX3_readLine_195 rfl ?_
      refine zs_geti (r := 407) (pc := 196) C dX3_readLine_196 w_X3_38 f_4_7 rfl (r_407 0) (fun v196 e196 l196 u196 => ?_)
      refine zs_if_ne (tgt := 206) (pc := 199) C dX3_readLine_199 (by decide) (fun h199 => ?_) (fun h199 => ?_)
      · skip
        exact zs_vret (pc := 206) C hr hlk dX3_readLine_206 ⟨by repeat (first | exact zsm_rf | assumption | refine zsm_C (by decide) ?_ | refine zsm_I (by decide) ?_ | refine zsm_J ?_ | refine zsm_c (by assumption) (by decide) ?_), by first | omega | (simp only [zuI_1, zuI_2, zuJ_1, zuJ_2, zuJ_3, zuP_1, zuP_2, zuP_3, zuC_1, zuC_2, reduceIte, Nat.reduceEqDiff, false_and, and_false, true_and, and_true, and_self, or_true, true_or, or_false, false_or]; omega)⟩
      · skip
        refine zs_aload_n (pc := 202) C dX3_readLine_202 rfl ?_
        refine zVv0 (pc := 203) C dX3_readLine_203 v_X3_51 (c_X3_next hX (by omega)) (by decide) (by decide) ⟨Nat.zero_le _, Nat.zero_le _⟩ (Nat.le_of_ble_eq_true rfl) (fun G203 hp203 => ?_)
        obtain ⟨hz203, hq203⟩ := hp203
        have tr203_704 := zsm_at hz203 704 (Γ.2.1 w 0) 0 (by decide)
        try simp only [zuI_1, zuI_2, zuJ_1, zuJ_2, zuJ_3, zuP_1, zuP_2, zuP_3, zuC_1, zuC_2, reduceIte, Nat.reduceEqDiff, false_and, and_false, true_and, and_true, and_self, or_true, true_or, or_false, false_or] at tr203_704
        have tr203_407 := zsm_at hz203 407 w 0 (by decide)
        try simp only [zuI_1, zuI_2, zuJ_1, zuJ_2, zuJ_3, zuP_1, zuP_2, zuP_3, zuC_1, zuC_2, reduceIte, Nat.reduceEqDiff, false_and, and_false, true_and, and_true, and_self, or_true, true_or, or_false, false_or] at tr203_407
        exact zs_vret (pc := 206) C hr hlk dX3_readLine_206 ⟨by repeat (first | exact zsm_rf | assumption | refine zsm_C (by decide) ?_ | refine zsm_I (by decide) ?_ | refine zsm_J ?_ | refine zsm_c (by assumption) (by decide) ?_), by first | omega | (simp only [zuI_1, zuI_2, zuJ_1, zuJ_2, zuJ_3, zuP_1, zuP_2, zuP_3, zuC_1, zuC_2, reduceIte, Nat.reduceEqDiff, false_and, and_false, true_and, and_true, and_self, or_true, true_or, or_false, false_or]; omega)⟩
    · skip
      refine zs_aload_n (pc := 190) C dX3_readLine_190 rfl ?_
      refine zs_iconst (pc := 191) C dX3_readLine_191 (by decide) ?_
      refine zVv1 (pc := 192) C dX3_readLine_192 v_X3_114 (c_X3_fail hX (by omega) (by omega)) (by decide) (by decide) ⟨Nat.zero_le _, Nat.zero_le _⟩ (Nat.le_of_ble_eq_true rfl) (fun G192 hp192 => ?_)
      obtain ⟨hz192, hq192⟩ := hp192
      have tr192_704 := zsm_at hz192 704 (Γ.2.1 w 0) 0 (by decide)
      try simp only [zuI_1, zuI_2, zuJ_1, zuJ_2, zuJ_3, zuP_1, zuP_2, zuP_3, zuC_1, zuC_2, reduceIte, Nat.reduceEqDiff, false_and, and_false, true_and, and_true, and_self, or_true, true_or, or_false, false_or] at tr192_704
      have tr192_402 := zsm_at hz192 402 w 0 (by decide)
      try simp only [zuI_1, zuI_2, zuJ_1, zuJ_2, zuJ_3, zuP_1, zuP_2, zuP_3, zuC_1, zuC_2, reduceIte, Nat.reduceEqDiff, false_and, and_false, true_and, and_true, and_self, or_true, true_or, or_false, false_or] at tr192_402
      refine zs_aload_n (pc := 195) C dX3_readLine_195 rfl ?_
      refine zs_geti (r := 407) (pc := 196) C dX3_readLine_196 w_X3_38 f_4_7 rfl (r_407 0) (fun v196 e196 l196 u196 => ?_)
      refine zs_if_ne (tgt := 206) (pc := 199) C dX3_readLine_199 (by decide) (fun h199 => ?_) (fun h199 => ?_)
      · skip
        exact zs_vret (pc := 206) C hr hlk dX3_readLine_206 ⟨by repeat (first | exact zsm_rf | assumption | refine zsm_C (by decide) ?_ | refine zsm_I (by decide) ?_ | refine zsm_J ?_ | refine zsm_c (by assumption) (by decide) ?_), by first | omega | (simp only [zuI_1, zuI_2, zuJ_1, zuJ_2, zuJ_3, zuP_1, zuP_2, zuP_3, zuC_1, zuC_2, reduceIte, Nat.reduceEqDiff, false_and, and_false, true_and, and_true, and_self, or_true, true_or, or_false, false_or]; omega)⟩
      · skip
        refine zs_aload_n (pc := 202) C dX3_readLine_202 rfl ?_
        refine zVv0 (pc := 203) C dX3_readLine_203 v_X3_51 (c_X3_next hX (by omega)) (by decide) (by decide) ⟨Nat.zero_le _, Nat.zero_le _⟩ (Nat.le_of_ble_eq_true rfl) (fun G203 hp203 => ?_)
        obtain ⟨hz203, hq203⟩ := hp203
        have tr203_704 := zsm_at hz203 704 (Γ.2.1 w 0) 0 (by decide)
        try simp only [zuI_1, zuI_2, zuJ_1, zuJ_2, zuJ_3, zuP_1, zuP_2, zuP_3, zuC_1, zuC_2, reduceIte, Nat.reduceEqDiff, false_and, and_false, true_and, and_true, and_self, or_true, true_or, or_false, false_or] at tr203_704
        have tr203_407 := zsm_at hz203 407 w 0 (by decide)
        try simp only [zuI_1, zuI_2, zuJ_1, zuJ_2, zuJ_3, zuP_1, zuP_2, zuP_3, zuC_1, zuC_2, reduceIte, Nat.reduceEqDiff, false_and, and_false, true_and, and_true, and_self, or_true, true_or, or_false, false_or] at tr203_407
        exact zs_vret (pc := 206) C hr hlk dX3_readLine_206 ⟨by repeat (first | exact zsm_rf | assumption | refine zsm_C (by decide) ?_ | refine zsm_I (by decide) ?_ | refine zsm_J ?_ | refine zsm_c (by assumption) (by decide) ?_), by first | omega | (simp only [zuI_1, zuI_2, zuJ_1, zuJ_2, zuJ_3, zuP_1, zuP_2, zuP_3, zuC_1, zuC_2, reduceIte, Nat.reduceEqDiff, false_and, and_false, true_and, and_true, and_self, or_true, true_or, or_false, false_or]; omega)⟩
  · skip
    refine zs_tabIn (pc := 4) (tgt := 162) C 9 dX3_readLine_4 h4 (by decide) rfl (by decide) ?_
    refine zs_aload_n (pc := 162) C dX3_readLine_162 rfl ?_
    refine zs_iconst (pc := 163) C dX3_readLine_163 (by decide) ?_
    refine zs_aload_n (pc := 164) C dX3_readLine_164 rfl ?_
    refine zs_iconst (pc := 165) C dX3_readLine_165 (by decide) ?_
    refine zVi1 (pc := 166) C dX3_readLine_166 v_X3_110 (c_X3_readNew hX (by omega) (by omega) (by omega)) (by decide) (by decide) ⟨Nat.zero_le _, Nat.zero_le _⟩ (Nat.le_of_ble_eq_true rfl) (fun x166 G166 l166 u166 hp166 => ?_)
    obtain ⟨hz166, hq166⟩ := hp166
    have tr166_704 := zsm_at hz166 704 (Γ.2.1 w 0) 0 (by decide)
    try simp only [zuI_1, zuI_2, zuJ_1, zuJ_2, zuJ_3, zuP_1, zuP_2, zuP_3, zuC_1, zuC_2, reduceIte, Nat.reduceEqDiff, false_and, and_false, true_and, and_true, and_self, or_true, true_or, or_false, false_or] at tr166_704
    first | refine zs_iadd (pc := 169) C dX3_readLine_169 (by omega) ?_ | refine zs_iaddF (pc := 169) C dX3_readLine_169 (fun z169 hz1691 hz1692 => ?_)
    refine zVv1 (pc := 170) C dX3_readLine_170 v_X3_106 (c_X3_readE hX (by omega) (by omega)) (by decide) (by decide) ⟨Nat.zero_le _, Nat.zero_le _⟩ (Nat.le_of_ble_eq_true rfl) (fun G170 hp170 => ?_)
    obtain ⟨hz170, hq170⟩ := hp170
    have tr170_704 := zsm_at hz170 704 (Γ.2.1 w 0) 0 (by decide)
    try simp only [zuI_1, zuI_2, zuJ_1, zuJ_2, zuJ_3, zuP_1, zuP_2, zuP_3, zuC_1, zuC_2, reduceIte, Nat.reduceEqDiff, false_and, and_false, true_and, and_true, and_self, or_true, true_or, or_false, false_or] at tr170_704
    refine zs_goto (tgt := 181) (pc := 173) C dX3_readLine_173 (by decide) ?_
    refine zs_aload_n (pc := 181) C dX3_readLine_181 rfl ?_
    refine zs_bipush (pc := 182) C dX3_readLine_182 (by decide) (by decide) ?_
    refine zVip1 (pc := 184) C dX3_readLine_184 v_X3_117 (c_X3_isSign hX ) (by decide) (by decide) ⟨Nat.zero_le _, Nat.zero_le _⟩ (Nat.le_of_ble_eq_true rfl) (fun x184 l184 u184 hp184 => ?_)
    have hq184 := hp184
    refine zs_if_ne (tgt := 195) (pc := 187) C dX3_readLine_187 (by decide) (fun h187 => ?_) (fun h187 => ?_)
    · skip
      refine zs_aload_n (pc := 195) C dX3_readLine_195 rfl ?_
      refine zs_geti (r := 407) (pc := 196) C dX3_readLine_196 w_X3_38 f_4_7 rfl (r_407 0) (fun v196 e196 l196 u196 => ?_)
      refine zs_if_ne (tgt := 206) (pc := 199) C dX3_readLine_199 (by decide) (fun h199 => ?_) (fun h199 => ?_)
      · skip
        exact zs_vret (pc := 206) C hr hlk dX3_readLine_206 ⟨by repeat (first | exact zsm_rf | assumption | refine zsm_C (by decide) ?_ | refine zsm_I (by decide) ?_ | refine zsm_J ?_ | refine zsm_c (by assumption) (by decide) ?_), by first | omega | (simp only [zuI_1, zuI_2, zuJ_1, zuJ_2, zuJ_3, zuP_1, zuP_2, zuP_3, zuC_1, zuC_2, reduceIte, Nat.reduceEqDiff, false_and, and_false, true_and, and_true, and_self, or_true, true_or, or_false, false_or]; omega)⟩
      · skip
        refine zs_aload_n (pc := 202) C dX3_readLine_202 rfl ?_
        refine zVv0 (pc := 203) C dX3_readLine_203 v_X3_51 (c_X3_next hX (by omega)) (by decide) (by decide) ⟨Nat.zero_le _, Nat.zero_le _⟩ (Nat.le_of_ble_eq_true rfl) (fun G203 hp203 => ?_)
        obtain ⟨hz203, hq203⟩ := hp203
        have tr203_704 := zsm_at hz203 704 (Γ.2.1 w 0) 0 (by decide)
        try simp only [zuI_1, zuI_2, zuJ_1, zuJ_2, zuJ_3, zuP_1, zuP_2, zuP_3, zuC_1, zuC_2, reduceIte, Nat.reduceEqDiff, false_and, and_false, true_and, and_true, and_self, or_true, true_or, or_false, false_or] at tr203_704
        have tr203_407 := zsm_at hz203 407 w 0 (by decide)
        try simp only [zuI_1, zuI_2, zuJ_1, zuJ_2, zuJ_3, zuP_1, zuP_2, zuP_3, zuC_1, zuC_2, reduceIte, Nat.reduceEqDiff, false_and, and_false, true_and, and_true, and_self, or_true, true_or, or_false, false_or] at tr203_407
        exact zs_vret (pc := 206) C hr hlk dX3_readLine_206 ⟨by repeat (first | exact zsm_rf | assumption | refine zsm_C (by decide) ?_ | refine zsm_I (by decide) ?_ | refine zsm_J ?_ | refine zsm_c (by assumption) (by decide) ?_), by first | omega | (simp only [zuI_1, zuI_2, zuJ_1, zuJ_2, zuJ_3, zuP_1, zuP_2, zuP_3, zuC_1, zuC_2, reduceIte, Nat.reduceEqDiff, false_and, and_false, true_and, and_true, and_self, or_true, true_or, or_false, false_or]; omega)⟩
    · skip
      refine zs_aload_n (pc := 190) C dX3_readLine_190 rfl ?_
      refine zs_iconst (pc := 191) C dX3_readLine_191 (by decide) ?_
      refine zVv1 (pc := 192) C dX3_readLine_192 v_X3_114 (c_X3_fail hX (by omega) (by omega)) (by decide) (by decide) ⟨Nat.zero_le _, Nat.zero_le _⟩ (Nat.le_of_ble_eq_true rfl) (fun G192 hp192 => ?_)
      obtain ⟨hz192, hq192⟩ := hp192
      have tr192_704 := zsm_at hz192 704 (Γ.2.1 w 0) 0 (by decide)
      try simp only [zuI_1, zuI_2, zuJ_1, zuJ_2, zuJ_3, zuP_1, zuP_2, zuP_3, zuC_1, zuC_2, reduceIte, Nat.reduceEqDiff, false_and, and_false, true_and, and_true, and_self, or_true, true_or, or_false, false_or] at tr192_704
      have tr192_402 := zsm_at hz192 402 w 0 (by decide)
      try simp only [zuI_1, zuI_2, zuJ_1, zuJ_2, zuJ_3, zuP_1, zuP_2, zuP_3, zuC_1, zuC_2, reduceIte, Nat.reduceEqDiff, false_and, and_false, true_and, and_true, and_self, or_true, true_or, or_false, false_or] at tr192_402
      refine zs_aload_n (pc := 195) C dX3_readLine_195 rfl ?_
      refine zs_geti (r := 407) (pc := 196) C dX3_readLine_196 w_X3_38 f_4_7 rfl (r_407 0) (fun v196 e196 l196 u196 => ?_)
      refine zs_if_ne (tgt := 206) (pc := 199) C dX3_readLine_199 (by decide) (fun h199 => ?_) (fun h199 => ?_)
      · skip
        exact zs_vret (pc := 206) C hr hlk dX3_readLine_206 ⟨by repeat (first | exact zsm_rf | assumption | refine zsm_C (by decide) ?_ | refine zsm_I (by decide) ?_ | refine zsm_J ?_ | refine zsm_c (by assumption) (by decide) ?_), by first | omega | (simp only [zuI_1, zuI_2, zuJ_1, zuJ_2, zuJ_3, zuP_1, zuP_2, zuP_3, zuC_1, zuC_2, reduceIte, Nat.reduceEqDiff, false_and, and_false, true_and, and_true, and_self, or_true, true_or, or_false, false_or]; omega)⟩
      · skip
        refine zs_aload_n (pc := 202) C dX3_readLine_202 rfl ?_
        refine zVv0 (pc := 203) C dX3_readLine_203 v_X3_51 (c_X3_next hX (by omega)) (by decide) (by decide) ⟨Nat.zero_le _, Nat.zero_le _⟩ (Nat.le_of_ble_eq_true rfl) (fun G203 hp203 => ?_)
        obtain ⟨hz203, hq203⟩ := hp203
        have tr203_704 := zsm_at hz203 704 (Γ.2.1 w 0) 0 (by decide)
        try simp only [zuI_1, zuI_2, zuJ_1, zuJ_2, zuJ_3, zuP_1, zuP_2, zuP_3, zuC_1, zuC_2, reduceIte, Nat.reduceEqDiff, false_and, and_false, true_and, and_true, and_self, or_true, true_or, or_false, false_or] at tr203_704
        have tr203_407 := zsm_at hz203 407 w 0 (by decide)
        try simp only [zuI_1, zuI_2, zuJ_1, zuJ_2, zuJ_3, zuP_1, zuP_2, zuP_3, zuC_1, zuC_2, reduceIte, Nat.reduceEqDiff, false_and, and_false, true_and, and_true, and_self, or_true, true_or, or_false, false_or] at tr203_407
        exact zs_vret (pc := 206) C hr hlk dX3_readLine_206 ⟨by repeat (first | exact zsm_rf | assumption | refine zsm_C (by decide) ?_ | refine zsm_I (by decide) ?_ | refine zsm_J ?_ | refine zsm_c (by assumption) (by decide) ?_), by first | omega | (simp only [zuI_1, zuI_2, zuJ_1, zuJ_2, zuJ_3, zuP_1, zuP_2, zuP_3, zuC_1, zuC_2, reduceIte, Nat.reduceEqDiff, false_and, and_false, true_and, and_true, and_self, or_true, true_or, or_false, false_or]; omega)⟩
  · skip
    refine zs_tabOut (tgt := 176) (pc := 4) C dX3_readLine_4 h4 (by decide) ?_
    refine zs_aload_n (pc := 176) C dX3_readLine_176 rfl ?_
    refine zs_iconst (pc := 177) C dX3_readLine_177 (by decide) ?_
    refine zVv1 (pc := 178) C dX3_readLine_178 v_X3_114 (c_X3_fail hX (by omega) (by omega)) (by decide) (by decide) ⟨Nat.zero_le _, Nat.zero_le _⟩ (Nat.le_of_ble_eq_true rfl) (fun G178 hp178 => ?_)
    obtain ⟨hz178, hq178⟩ := hp178
    have tr178_704 := zsm_at hz178 704 (Γ.2.1 w 0) 0 (by decide)
    try simp only [zuI_1, zuI_2, zuJ_1, zuJ_2, zuJ_3, zuP_1, zuP_2, zuP_3, zuC_1, zuC_2, reduceIte, Nat.reduceEqDiff, false_and, and_false, true_and, and_true, and_self, or_true, true_or, or_false, false_or] at tr178_704
    have tr178_402 := zsm_at hz178 402 w 0 (by decide)
    try simp only [zuI_1, zuI_2, zuJ_1, zuJ_2, zuJ_3, zuP_1, zuP_2, zuP_3, zuC_1, zuC_2, reduceIte, Nat.reduceEqDiff, false_and, and_false, true_and, and_true, and_self, or_true, true_or, or_false, false_or] at tr178_402
    refine zs_aload_n (pc := 181) C dX3_readLine_181 rfl ?_
    refine zs_bipush (pc := 182) C dX3_readLine_182 (by decide) (by decide) ?_
    refine zVip1 (pc := 184) C dX3_readLine_184 v_X3_117 (c_X3_isSign hX ) (by decide) (by decide) ⟨Nat.zero_le _, Nat.zero_le _⟩ (Nat.le_of_ble_eq_true rfl) (fun x184 l184 u184 hp184 => ?_)
    have hq184 := hp184
    refine zs_if_ne (tgt := 195) (pc := 187) C dX3_readLine_187 (by decide) (fun h187 => ?_) (fun h187 => ?_)
    · skip
      refine zs_aload_n (pc := 195) C dX3_readLine_195 rfl ?_
      refine zs_geti (r := 407) (pc := 196) C dX3_readLine_196 w_X3_38 f_4_7 rfl (r_407 0) (fun v196 e196 l196 u196 => ?_)
      refine zs_if_ne (tgt := 206) (pc := 199) C dX3_readLine_199 (by decide) (fun h199 => ?_) (fun h199 => ?_)
      · skip
        exact zs_vret (pc := 206) C hr hlk dX3_readLine_206 ⟨by repeat (first | exact zsm_rf | assumption | refine zsm_C (by decide) ?_ | refine zsm_I (by decide) ?_ | refine zsm_J ?_ | refine zsm_c (by assumption) (by decide) ?_), by first | omega | (simp only [zuI_1, zuI_2, zuJ_1, zuJ_2, zuJ_3, zuP_1, zuP_2, zuP_3, zuC_1, zuC_2, reduceIte, Nat.reduceEqDiff, false_and, and_false, true_and, and_true, and_self, or_true, true_or, or_false, false_or]; omega)⟩
      · skip
        refine zs_aload_n (pc := 202) C dX3_readLine_202 rfl ?_
        refine zVv0 (pc := 203) C dX3_readLine_203 v_X3_51 (c_X3_next hX (by omega)) (by decide) (by decide) ⟨Nat.zero_le _, Nat.zero_le _⟩ (Nat.le_of_ble_eq_true rfl) (fun G203 hp203 => ?_)
        obtain ⟨hz203, hq203⟩ := hp203
        have tr203_704 := zsm_at hz203 704 (Γ.2.1 w 0) 0 (by decide)
        try simp only [zuI_1, zuI_2, zuJ_1, zuJ_2, zuJ_3, zuP_1, zuP_2, zuP_3, zuC_1, zuC_2, reduceIte, Nat.reduceEqDiff, false_and, and_false, true_and, and_true, and_self, or_true, true_or, or_false, false_or] at tr203_704
        have tr203_407 := zsm_at hz203 407 w 0 (by decide)
        try simp only [zuI_1, zuI_2, zuJ_1, zuJ_2, zuJ_3, zuP_1, zuP_2, zuP_3, zuC_1, zuC_2, reduceIte, Nat.reduceEqDiff, false_and, and_false, true_and, and_true, and_self, or_true, true_or, or_false, false_or] at tr203_407
        exact zs_vret (pc := 206) C hr hlk dX3_readLine_206 ⟨by repeat (first | exact zsm_rf | assumption | refine zsm_C (by decide) ?_ | refine zsm_I (by decide) ?_ | refine zsm_J ?_ | refine zsm_c (by assumption) (by decide) ?_), by first | omega | (simp only [zuI_1, zuI_2, zuJ_1, zuJ_2, zuJ_3, zuP_1, zuP_2, zuP_3, zuC_1, zuC_2, reduceIte, Nat.reduceEqDiff, false_and, and_false, true_and, and_true, and_self, or_true, true_or, or_false, false_or]; omega)⟩
    · skip
      refine zs_aload_n (pc := 190) C dX3_readLine_190 rfl ?_
      refine zs_iconst (pc := 191) C dX3_readLine_191 (by decide) ?_
      refine zVv1 (pc := 192) C dX3_readLine_192 v_X3_114 (c_X3_fail hX (by omega) (by omega)) (by decide) (by decide) ⟨Nat.zero_le _, Nat.zero_le _⟩ (Nat.le_of_ble_eq_true rfl) (fun G192 hp192 => ?_)
      obtain ⟨hz192, hq192⟩ := hp192
      have tr192_704 := zsm_at hz192 704 (Γ.2.1 w 0) 0 (by decide)
      try simp only [zuI_1, zuI_2, zuJ_1, zuJ_2, zuJ_3, zuP_1, zuP_2, zuP_3, zuC_1, zuC_2, reduceIte, Nat.reduceEqDiff, false_and, and_false, true_and, and_true, and_self, or_true, true_or, or_false, false_or] at tr192_704
      have tr192_402 := zsm_at hz192 402 w 0 (by decide)
      try simp only [zuI_1, zuI_2, zuJ_1, zuJ_2, zuJ_3, zuP_1, zuP_2, zuP_3, zuC_1, zuC_2, reduceIte, Nat.reduceEqDiff, false_and, and_false, true_and, and_true, and_self, or_true, true_or, or_false, false_or] at tr192_402
      refine zs_aload_n (pc := 195) C dX3_readLine_195 rfl ?_
      refine zs_geti (r := 407) (pc := 196) C dX3_readLine_196 w_X3_38 f_4_7 rfl (r_407 0) (fun v196 e196 l196 u196 => ?_)
      refine zs_if_ne (tgt := 206) (pc := 199) C dX3_readLine_199 (by decide) (fun h199 => ?_) (fun h199 => ?_)
      · skip
        exact zs_vret (pc := 206) C hr hlk dX3_readLine_206 ⟨by repeat (first | exact zsm_rf | assumption | refine zsm_C (by decide) ?_ | refine zsm_I (by decide) ?_ | refine zsm_J ?_ | refine zsm_c (by assumption) (by decide) ?_), by first | omega | (simp only [zuI_1, zuI_2, zuJ_1, zuJ_2, zuJ_3, zuP_1, zuP_2, zuP_3, zuC_1, zuC_2, reduceIte, Nat.reduceEqDiff, false_and, and_false, true_and, and_true, and_self, or_true, true_or, or_false, false_or]; omega)⟩
      · skip
        refine zs_aload_n (pc := 202) C dX3_readLine_202 rfl ?_
        refine zVv0 (pc := 203) C dX3_readLine_203 v_X3_51 (c_X3_next hX (by omega)) (by decide) (by decide) ⟨Nat.zero_le _, Nat.zero_le _⟩ (Nat.le_of_ble_eq_true rfl) (fun G203 hp203 => ?_)
        obtain ⟨hz203, hq203⟩ := hp203
        have tr203_704 := zsm_at hz203 704 (Γ.2.1 w 0) 0 (by decide)
        try simp only [zuI_1, zuI_2, zuJ_1, zuJ_2, zuJ_3, zuP_1, zuP_2, zuP_3, zuC_1, zuC_2, reduceIte, Nat.reduceEqDiff, false_and, and_false, true_and, and_true, and_self, or_true, true_or, or_false, false_or] at tr203_704
        have tr203_407 := zsm_at hz203 407 w 0 (by decide)
        try simp only [zuI_1, zuI_2, zuJ_1, zuJ_2, zuJ_3, zuP_1, zuP_2, zuP_3, zuC_1, zuC_2, reduceIte, Nat.reduceEqDiff, false_and, and_false, true_and, and_true, and_self, or_true, true_or, or_false, false_or] at tr203_407
        exact zs_vret (pc := 206) C hr hlk dX3_readLine_206 ⟨by repeat (first | exact zsm_rf | assumption | refine zsm_C (by decide) ?_ | refine zsm_I (by decide) ?_ | refine zsm_J ?_ | refine zsm_c (by assumption) (by decide) ?_), by first | omega | (simp only [zuI_1, zuI_2, zuJ_1, zuJ_2, zuJ_3, zuP_1, zuP_2, zuP_3, zuC_1, zuC_2, reduceIte, Nat.reduceEqDiff, false_and, and_false, true_and, and_true, and_self, or_true, true_or, or_false, false_or]; omega)⟩

set_option maxHeartbeats 4000000 in
set_option maxRecDepth 100000 in
theorem c_X3_readAll {l : Launch} {Γ : zΓ} {G : zH} {w b : Nat} {k : Int} (hX : zXs Γ)  : zMet l Γ yX3_readAll cX3_readAll 4 (some .int) 6 [zr 4 w, zr 55 b, zi k] G (zpi (fun x G' => zsm [402, 403, 404, 405, 406, 407, 408, 409, 410, 411, 412, 413, 2025, 206, 207, 2014, 2015, 2016, 2017, 2036, 2037, 2038, 2039, 2040, 2041, 2042, 2043, 609, 610, 611, 612, 704, 705, 706, 2045, 2046, 2047] G G' ∧ True)) := by
  refine zMet_of RX3 hX (by decide) rfl (Nat.le_of_ble_eq_true rfl) ?_
  intro p e s m args below meth c C hr hlk
  show Z p l e (zrm 6) s m args below meth c Γ 4 0 0 (MQ below (zQc Γ (zpi (fun x G' => zsm [402, 403, 404, 405, 406, 407, 408, 409, 410, 411, 412, 413, 2025, 206, 207, 2014, 2015, 2016, 2017, 2036, 2037, 2038, 2039, 2040, 2041, 2042, 2043, 609, 610, 611, 612, 704, 705, 706, 2045, 2046, 2047] G G' ∧ True))) args s 0 0 (zA Γ)) 0 [some (zr 4 w), some (zr 55 b), some (zi k), none] [] G
  refine zs_loc 2 rfl (fun ha2 hb2 => ?_)
  refine zs_aload_n (pc := 0) C dX3_readAll_0 rfl ?_
  refine zs_getf (pc := 1) C dX3_readAll_1 w_X3_12 f_4_0 (by decide) ?_
  refine zs_aload_n (pc := 4) C dX3_readAll_4 rfl ?_
  refine zs_iload_n (pc := 5) C dX3_readAll_5 rfl ?_
  refine zVv2 (pc := 6) C dX3_readAll_6 v_X3_31 (c_X6_readAll hX ) (by decide) (by decide) ⟨Nat.zero_le _, Nat.zero_le _⟩ (Nat.le_of_ble_eq_true rfl) (fun G6 hp6 => ?_)
  obtain ⟨hz6, hq6⟩ := hp6
  have tr6_402 := zsm_at hz6 402 w 0 (by decide)
  try simp only [zuI_1, zuI_2, zuJ_1, zuJ_2, zuJ_3, zuP_1, zuP_2, zuP_3, zuC_1, zuC_2, reduceIte, Nat.reduceEqDiff, false_and, and_false, true_and, and_true, and_self, or_true, true_or, or_false, false_or] at tr6_402
  refine zs_aload_n (pc := 9) C dX3_readAll_9 rfl ?_
  refine zs_getd (r := 401) (pc := 10) C dX3_readAll_10 w_X3_21 f_4_1 (by decide) rfl (fun v10 e10 t10 => ?_)
  try simp only [hz6.2, zuI_1, zuI_2, zuJ_1, zuJ_2, zuJ_3, zuP_1, zuP_2, zuP_3, zuC_1, zuC_2, reduceIte, Nat.reduceEqDiff, false_and, and_false, true_and, and_true, and_self, or_true, true_or, or_false, false_or] at e10
  subst e10
  refine zVv0 (pc := 13) C dX3_readAll_13 v_X3_35 (c_X5_clear hX ) (by decide) (by decide) ⟨Nat.zero_le _, Nat.zero_le _⟩ (Nat.le_of_ble_eq_true rfl) (fun G13 hp13 => ?_)
  obtain ⟨hz13, hq13⟩ := hp13
  have tr13_704 := zsm_at hz13 704 (Γ.2.1 w 0) 0 (by decide)
  try simp only [zuI_1, zuI_2, zuJ_1, zuJ_2, zuJ_3, zuP_1, zuP_2, zuP_3, zuC_1, zuC_2, reduceIte, Nat.reduceEqDiff, false_and, and_false, true_and, and_true, and_self, or_true, true_or, or_false, false_or] at tr13_704
  have tr13_402 := zsm_at hz13 402 w 0 (by decide)
  try simp only [zuI_1, zuI_2, zuJ_1, zuJ_2, zuJ_3, zuP_1, zuP_2, zuP_3, zuC_1, zuC_2, reduceIte, Nat.reduceEqDiff, false_and, and_false, true_and, and_true, and_self, or_true, true_or, or_false, false_or] at tr13_402
  refine zs_aload_n (pc := 16) C dX3_readAll_16 rfl ?_
  refine zs_iconst (pc := 17) C dX3_readAll_17 (by decide) ?_
  refine zs_puti (r := 407) (pc := 18) C dX3_readAll_18 w_X3_38 f_4_7 rfl (r_407 0) (by omega) ?_
  refine zs_aload_n (pc := 21) C dX3_readAll_21 rfl ?_
  refine zs_iconst (pc := 22) C dX3_readAll_22 (by decide) ?_
  refine zs_puti (r := 408) (pc := 23) C dX3_readAll_23 w_X3_42 f_4_8 rfl (r_408 0) (by omega) ?_
  refine zs_aload_n (pc := 26) C dX3_readAll_26 rfl ?_
  refine zs_iconst (pc := 27) C dX3_readAll_27 (by decide) ?_
  refine zs_puti (r := 406) (pc := 28) C dX3_readAll_28 w_X3_45 f_4_6 rfl (r_406 0) (by omega) ?_
  refine zs_aload_n (pc := 31) C dX3_readAll_31 rfl ?_
  refine zs_iconst (pc := 32) C dX3_readAll_32 (by decide) ?_
  refine zs_puti (r := 402) (pc := 33) C dX3_readAll_33 w_X3_48 f_4_2 rfl (r_402 0) (by omega) ?_
  refine zs_aload_n (pc := 36) C dX3_readAll_36 rfl ?_
  refine zVv0 (pc := 37) C dX3_readAll_37 v_X3_51 (c_X3_next hX (by first | omega | (simp only [zuI_1, zuI_2, zuJ_1, zuJ_2, zuJ_3, zuP_1, zuP_2, zuP_3, zuC_1, zuC_2, reduceIte, Nat.reduceEqDiff, false_and, and_false, true_and, and_true, and_self, or_true, true_or, or_false, false_or]; omega))) (by decide) (by decide) ⟨Nat.zero_le _, Nat.zero_le _⟩ (Nat.le_of_ble_eq_true rfl) (fun G37 hp37 => ?_)
  obtain ⟨hz37, hq37⟩ := hp37
  try simp only [zuI_1, zuI_2, zuJ_1, zuJ_2, zuJ_3, zuP_1, zuP_2, zuP_3, zuC_1, zuC_2, reduceIte, Nat.reduceEqDiff, false_and, and_false, true_and, and_true, and_self, or_true, true_or, or_false, false_or] at hq37
  have tr37_704 := zsm_at hz37 704 (Γ.2.1 w 0) 0 (by decide)
  try simp only [zuI_1, zuI_2, zuJ_1, zuJ_2, zuJ_3, zuP_1, zuP_2, zuP_3, zuC_1, zuC_2, reduceIte, Nat.reduceEqDiff, false_and, and_false, true_and, and_true, and_self, or_true, true_or, or_false, false_or] at tr37_704
  refine zs_iconst (pc := 40) C dX3_readAll_40 (by decide) ?_
  refine zs_istore_n (pc := 41) C dX3_readAll_41 (by decide) ?_
  dsimp only [zset, zclr, znone]
  have L42 : ∀ (nn : Nat) (x3 : Int) (G1 : zH), (0 ≤ x3 ∧ x3 ≤ 700) → (1 ≤ G1.1 704 (Γ.2.1 w 0) 0) → (0 ≤ G1.1 402 w 0) → (zsm [402, 403, 404, 405, 406, 407, 408, 409, 410, 411, 412, 413, 2025, 206, 207, 2014, 2015, 2016, 2017, 2036, 2037, 2038, 2039, 2040, 2041, 2042, 2043, 609, 610, 611, 612, 704, 705, 706, 2045, 2046, 2047] G G1) → (700 - x3).toNat < nn → Z p l e (zrm 6) s m args below meth c Γ 4 0 0 (MQ below (zQc Γ (zpi (fun x G' => zsm [402, 403, 404, 405, 406, 407, 408, 409, 410, 411, 412, 413, 2025, 206, 207, 2014, 2015, 2016, 2017, 2036, 2037, 2038, 2039, 2040, 2041, 2042, 2043, 609, 610, 611, 612, 704, 705, 706, 2045, 2046, 2047] G G' ∧ True))) args s 0 0 (zA Γ)) 42 [some (zr 4 w), some (zr 55 b), some (zi k), some (zi x3)] [] G1 := by
    intro nn
    induction nn with
    | zero => intro x3 G1 h42_0 h42_1 h42_2 h42_3 hm; exact absurd hm (Nat.not_lt_zero _)
    | succ nn ih42 =>
      intro x3 G1 h42_0 h42_1 h42_2 h42_3 hm42
      refine zs_iload_n (pc := 42) C dX3_readAll_42 rfl ?_
      refine zs_sipush (pc := 43) C dX3_readAll_43 (by decide) (by decide) ?_
      refine zs_icmp_ge (tgt := 73) (pc := 46) C dX3_readAll_46 (by decide) (fun h46 => ?_) (fun h46 => ?_)
      · skip
        refine zs_iload_n (pc := 73) C dX3_readAll_73 rfl ?_
        exact zs_iret (pc := 74) C hr hlk dX3_readAll_74 ⟨by repeat (first | exact zsm_rf | assumption | refine zsm_C (by decide) ?_ | refine zsm_I (by decide) ?_ | refine zsm_J ?_ | refine zsm_c (by assumption) (by decide) ?_), trivial⟩
      · skip
        refine zs_aload_n (pc := 49) C dX3_readAll_49 rfl ?_
        refine zs_geti (r := 407) (pc := 50) C dX3_readAll_50 w_X3_38 f_4_7 rfl (r_407 0) (fun v50 e50 l50 u50 => ?_)
        refine zs_if_ne (tgt := 73) (pc := 53) C dX3_readAll_53 (by decide) (fun h53 => ?_) (fun h53 => ?_)
        · skip
          refine zs_iload_n (pc := 73) C dX3_readAll_73 rfl ?_
          exact zs_iret (pc := 74) C hr hlk dX3_readAll_74 ⟨by repeat (first | exact zsm_rf | assumption | refine zsm_C (by decide) ?_ | refine zsm_I (by decide) ?_ | refine zsm_J ?_ | refine zsm_c (by assumption) (by decide) ?_), trivial⟩
        · skip
          refine zs_aload_n (pc := 56) C dX3_readAll_56 rfl ?_
          refine zs_geti (r := 403) (pc := 57) C dX3_readAll_57 w_X3_54 f_4_3 rfl (r_403 0) (fun v57 e57 l57 u57 => ?_)
          refine zs_if_eq (tgt := 73) (pc := 60) C dX3_readAll_60 (by decide) (fun h60 => ?_) (fun h60 => ?_)
          · skip
            refine zs_iload_n (pc := 73) C dX3_readAll_73 rfl ?_
            exact zs_iret (pc := 74) C hr hlk dX3_readAll_74 ⟨by repeat (first | exact zsm_rf | assumption | refine zsm_C (by decide) ?_ | refine zsm_I (by decide) ?_ | refine zsm_J ?_ | refine zsm_c (by assumption) (by decide) ?_), trivial⟩
          · skip
            refine zs_aload_n (pc := 63) C dX3_readAll_63 rfl ?_
            refine zVv0 (pc := 64) C dX3_readAll_64 v_X3_57 (c_X3_readLine hX (by omega) (by omega)) (by decide) (by decide) ⟨Nat.zero_le _, Nat.zero_le _⟩ (Nat.le_of_ble_eq_true rfl) (fun G64 hp64 => ?_)
            obtain ⟨hz64, hq64⟩ := hp64
            have tr64_704 := zsm_at hz64 704 (Γ.2.1 w 0) 0 (by decide)
            try simp only [zuI_1, zuI_2, zuJ_1, zuJ_2, zuJ_3, zuP_1, zuP_2, zuP_3, zuC_1, zuC_2, reduceIte, Nat.reduceEqDiff, false_and, and_false, true_and, and_true, and_self, or_true, true_or, or_false, false_or] at tr64_704
            first | refine zs_iinc (pc := 67) C dX3_readAll_67 rfl (by decide) (by omega) ?_ | refine zs_iincF (pc := 67) C dX3_readAll_67 rfl (by decide) (fun z67 hz671 hz672 => ?_)
            dsimp only [zset, zclr, znone]
            refine zs_goto (tgt := 42) (pc := 70) C dX3_readAll_70 (by decide) ?_
            exact zs_wk (ih42 _ _ (by first | omega | (simp only [zuI_1, zuI_2, zuJ_1, zuJ_2, zuJ_3, zuP_1, zuP_2, zuP_3, zuC_1, zuC_2, reduceIte, Nat.reduceEqDiff, false_and, and_false, true_and, and_true, and_self, or_true, true_or, or_false, false_or]; omega)) (by first | omega | (simp only [zuI_1, zuI_2, zuJ_1, zuJ_2, zuJ_3, zuP_1, zuP_2, zuP_3, zuC_1, zuC_2, reduceIte, Nat.reduceEqDiff, false_and, and_false, true_and, and_true, and_self, or_true, true_or, or_false, false_or]; omega)) (by first | omega | (simp only [zuI_1, zuI_2, zuJ_1, zuJ_2, zuJ_3, zuP_1, zuP_2, zuP_3, zuC_1, zuC_2, reduceIte, Nat.reduceEqDiff, false_and, and_false, true_and, and_true, and_self, or_true, true_or, or_false, false_or]; omega)) (by repeat (first | exact zsm_rf | assumption | refine zsm_C (by decide) ?_ | refine zsm_I (by decide) ?_ | refine zsm_J ?_ | refine zsm_c (by assumption) (by decide) ?_)) (by first | omega | (simp only [zuI_1, zuI_2, zuJ_1, zuJ_2, zuJ_3, zuP_1, zuP_2, zuP_3, zuC_1, zuC_2, reduceIte, Nat.reduceEqDiff, false_and, and_false, true_and, and_true, and_self, or_true, true_or, or_false, false_or]; omega))) (zwk_s rfl (zwk_s rfl (zwk_s rfl (zwk_s rfl zwk_0))))
  exact zs_wk (L42 _ _ _ (by first | omega | (simp only [zuI_1, zuI_2, zuJ_1, zuJ_2, zuJ_3, zuP_1, zuP_2, zuP_3, zuC_1, zuC_2, reduceIte, Nat.reduceEqDiff, false_and, and_false, true_and, and_true, and_self, or_true, true_or, or_false, false_or]; omega)) (by first | omega | (simp only [zuI_1, zuI_2, zuJ_1, zuJ_2, zuJ_3, zuP_1, zuP_2, zuP_3, zuC_1, zuC_2, reduceIte, Nat.reduceEqDiff, false_and, and_false, true_and, and_true, and_self, or_true, true_or, or_false, false_or]; omega)) (by first | omega | (simp only [zuI_1, zuI_2, zuJ_1, zuJ_2, zuJ_3, zuP_1, zuP_2, zuP_3, zuC_1, zuC_2, reduceIte, Nat.reduceEqDiff, false_and, and_false, true_and, and_true, and_self, or_true, true_or, or_false, false_or]; omega)) (by repeat (first | exact zsm_rf | assumption | refine zsm_C (by decide) ?_ | refine zsm_I (by decide) ?_ | refine zsm_J ?_ | refine zsm_c (by assumption) (by decide) ?_)) (Nat.lt_succ_self _)) (zwk_s rfl (zwk_s rfl (zwk_s rfl (zwk_s rfl zwk_0))))

set_option maxHeartbeats 4000000 in
set_option maxRecDepth 100000 in
theorem c_X3_handOver {l : Launch} {Γ : zΓ} {G : zH} {w b : Nat} (hX : zXs Γ)  : zMet l Γ yX3_handOver cX3_handOver 3 (some (.object "ConfessionMill$Telling")) 0 [zr 4 w, zr 6 b] G (zpa 6 (fun x G' => zsn [] G G' ∧ True)) := by
  refine zMet_of RX3 hX (by decide) rfl (Nat.le_of_ble_eq_true rfl) ?_
  intro p e s m args below meth c C hr hlk
  show Z p l e (zrm 0) s m args below meth c Γ 3 0 0 (MQ below (zQc Γ (zpa 6 (fun x G' => zsn [] G G' ∧ True))) args s 0 0 (zA Γ)) 0 [some (zr 4 w), some (zr 6 b), none] [] G
  refine zs_aload_n (pc := 0) C dX3_handOver_0 rfl ?_
  refine zs_getd (r := 401) (pc := 1) C dX3_handOver_1 w_X3_21 f_4_1 (by decide) rfl (fun v1 e1 t1 => ?_)
  refine zs_astore_n (pc := 4) C dX3_handOver_4 (by decide) ?_
  dsimp only [zset, zclr, znone]
  refine zs_aload_n (pc := 5) C dX3_handOver_5 rfl ?_
  refine zs_aload_n (pc := 6) C dX3_handOver_6 rfl ?_
  refine zs_putd (r := 401) (pc := 7) C dX3_handOver_7 w_X3_21 f_4_1 (by decide) rfl ?_
  refine zs_aload_n (pc := 10) C dX3_handOver_10 rfl ?_
  exact zs_aret (pc := 11) C hr hlk dX3_handOver_11 ⟨by repeat (first | exact zsn_rf | assumption | refine zsn_C (by decide) ?_ | refine zsn_I (by decide) ?_ | refine zsn_J ?_ | refine zsn_P ?_ | refine zsn_m (by assumption) (by decide) ?_ | refine zsn_c (by assumption) (by decide) ?_), trivial⟩
