set_option maxHeartbeats 4000000 in
set_option maxRecDepth 100000 in
theorem c_X3_nextF {l : Launch} {Γ : zΓ} {G : zH} {w t : Nat} {b : Nat → Int} {n : Int} {N : Nat} {A : aS}  (hX : zXs Γ) (hN : QN b n N Γ w t A G) : zMet l Γ yX3_next cX3_next 1 none 0 [zr 4 w] G (zpv (fun G' => zsm [402, 403, 404, 405] G G' ∧ QC b n N Γ w t (sNext b n A) G')) := by
  have h1 := hN.2.1.1
  have h2 := hN.2.1.2.1
  have h3 := hN.2.2
  have q402 : G.1 402 w 0 = A 0 0 := hN.1.2 0 0 (by decide)
  refine zMet_of RX3 hX (by decide) rfl (Nat.le_of_ble_eq_true rfl) ?_
  intro p e s m args below meth c C hr hlk
  show Z p l e (zrm 0) s m args below meth c Γ 1 0 0 (MQ below (zQc Γ (zpv (fun G' => zsm [402, 403, 404, 405] G G' ∧ QC b n N Γ w t (sNext b n A) G'))) args s 0 0 (zA Γ)) 0 [some (zr 4 w)] [] G
  refine zs_aload_n (pc := 0) C dX3_next_0 rfl ?_
  refine zs_geti (r := 402) (pc := 1) C dX3_next_1 w_X3_48 f_4_2 rfl (r_402 0) (fun v1 e1 l1 u1 => ?_)
  refine zs_aload_n (pc := 4) C dX3_next_4 rfl ?_
  refine zs_getf (pc := 5) C dX3_next_5 w_X3_12 f_4_0 (by decide) ?_
  refine zs_geti (r := 704) (pc := 8) C dX3_next_8 w_X3_60 f_7_4 rfl (r_704 0) (fun v8 e8 l8 u8 => ?_)
  refine zs_iconst (pc := 11) C dX3_next_11 (by decide) ?_
  first | refine zs_isub (pc := 12) C dX3_next_12 (by omega) ?_ | refine zs_isubF (pc := 12) C dX3_next_12 (fun z12 hz121 hz122 => ?_)
  refine zs_icmp_ge (tgt := 26) (pc := 13) C dX3_next_13 (by decide) (fun h13 => ?_) (fun h13 => ?_)
  · skip
    refine zs_aload_n (pc := 26) C dX3_next_26 rfl ?_
    refine zs_aload_n (pc := 27) C dX3_next_27 rfl ?_
    refine zs_getf (pc := 28) C dX3_next_28 w_X3_12 f_4_0 (by decide) ?_
    refine zs_getf (pc := 31) C dX3_next_31 w_X3_63 f_7_1 (by decide) ?_
    refine zs_aload_n (pc := 34) C dX3_next_34 rfl ?_
    refine zs_geti (r := 402) (pc := 35) C dX3_next_35 w_X3_48 f_4_2 rfl (r_402 0) (fun v35 e35 l35 u35 => ?_)
    refine zs_iald (r := 2045) (pc := 38) C dX3_next_38 a_45 (by decide) (by omega) rfl (r_2045 _) (fun v38 e38 l38 u38 => ?_)
    refine zs_puti (r := 403) (pc := 39) C dX3_next_39 w_X3_54 f_4_3 rfl (r_403 0) (by omega) ?_
    refine zs_aload_n (pc := 42) C dX3_next_42 rfl ?_
    refine zs_aload_n (pc := 43) C dX3_next_43 rfl ?_
    refine zs_getf (pc := 44) C dX3_next_44 w_X3_12 f_4_0 (by decide) ?_
    refine zs_getf (pc := 47) C dX3_next_47 w_X3_65 f_7_3 (by decide) ?_
    refine zs_aload_n (pc := 50) C dX3_next_50 rfl ?_
    refine zs_geti (r := 402) (pc := 51) C dX3_next_51 w_X3_48 f_4_2 rfl (r_402 0) (fun v51 e51 l51 u51 => ?_)
    try simp only [zuI_1, zuI_2, zuJ_1, zuJ_2, zuJ_3, zuP_1, zuP_2, zuP_3, zuC_1, zuC_2, reduceIte, Nat.reduceEqDiff, false_and, and_false, true_and, and_true, and_self, or_true, true_or, or_false, false_or] at e51
    refine zs_iald (r := 2047) (pc := 54) C dX3_next_54 a_47 (by decide) (by omega) rfl (r_2047 _) (fun v54 e54 l54 u54 => ?_)
    try simp only [zuI_1, zuI_2, zuJ_1, zuJ_2, zuJ_3, zuP_1, zuP_2, zuP_3, zuC_1, zuC_2, reduceIte, Nat.reduceEqDiff, false_and, and_false, true_and, and_true, and_self, or_true, true_or, or_false, false_or] at e54
    refine zs_puti (r := 404) (pc := 55) C dX3_next_55 w_X3_68 f_4_4 rfl (r_404 0) (by omega) ?_
    refine zs_aload_n (pc := 58) C dX3_next_58 rfl ?_
    refine zs_aload_n (pc := 59) C dX3_next_59 rfl ?_
    refine zs_geti (r := 403) (pc := 60) C dX3_next_60 w_X3_54 f_4_3 rfl (r_403 0) (fun v60 e60 l60 u60 => ?_)
    try simp only [zuI_1, zuI_2, zuJ_1, zuJ_2, zuJ_3, zuP_1, zuP_2, zuP_3, zuC_1, zuC_2, reduceIte, Nat.reduceEqDiff, false_and, and_false, true_and, and_true, and_self, or_true, true_or, or_false, false_or] at e60
    refine zs_iconst (pc := 63) C dX3_next_63 (by decide) ?_
    refine zs_icmp_ne (tgt := 74) (pc := 64) C dX3_next_64 (by decide) (fun h64 => ?_) (fun h64 => ?_)
    · skip
      refine zs_iconst (pc := 74) C dX3_next_74 (by decide) ?_
      refine zs_puti (r := 405) (pc := 75) C dX3_next_75 w_X3_70 f_4_5 rfl (r_405 0) (by omega) ?_
      exact zs_vret (pc := 78) C hr hlk dX3_next_78 ⟨by repeat (first | exact zsm_rf | assumption | refine zsm_C (by decide) ?_ | refine zsm_I (by decide) ?_ | refine zsm_J ?_ | refine zsm_c (by assumption) (by decide) ?_), by
            first
            | (have e0 : sNext b n A = up A 0 0 (v18 + 1) := (by rw [sNext_lt hN (by omega), show A 0 0 + 1 = v18 + 1 by omega])
               rw [e0]
               refine QC_ld (CV_w (f := 0) (by decide) hN.1) (TKN_sm (zuI_nf (by decide)) (zuI_nf (by decide)) (zuI_nf (by decide)) (zuI_nf (by decide)) hN.2.1) (by rw [up_eq]; omega) (by rw [up_eq, zuI_nf (by decide), e38, show v35 = v18 + 1 by omega]) (by rw [up_eq, zuI_nf (by decide), e54, show v51 = v18 + 1 by omega]) (by first | (rw [if_pos (by omega)]; omega) | rw [if_neg (by omega)]))
            | (rw [sNext_ge hN (by omega)]
               refine QC_ld hN.1 hN.2.1 (by omega) (by rw [e38, show v35 = A 0 0 by omega]) (by rw [e54, show v51 = A 0 0 by omega]) (by first | (rw [if_pos (by omega)]; omega) | rw [if_neg (by omega)]))⟩
    · skip
      refine zs_aload_n (pc := 67) C dX3_next_67 rfl ?_
      refine zs_geti (r := 404) (pc := 68) C dX3_next_68 w_X3_68 f_4_4 rfl (r_404 0) (fun v68 e68 l68 u68 => ?_)
      try simp only [zuI_1, zuI_2, zuJ_1, zuJ_2, zuJ_3, zuP_1, zuP_2, zuP_3, zuC_1, zuC_2, reduceIte, Nat.reduceEqDiff, false_and, and_false, true_and, and_true, and_self, or_true, true_or, or_false, false_or] at e68
      refine zs_goto (tgt := 75) (pc := 71) C dX3_next_71 (by decide) ?_
      refine zs_puti (r := 405) (pc := 75) C dX3_next_75 w_X3_70 f_4_5 rfl (r_405 0) (by omega) ?_
      exact zs_vret (pc := 78) C hr hlk dX3_next_78 ⟨by repeat (first | exact zsm_rf | assumption | refine zsm_C (by decide) ?_ | refine zsm_I (by decide) ?_ | refine zsm_J ?_ | refine zsm_c (by assumption) (by decide) ?_), by
            first
            | (have e0 : sNext b n A = up A 0 0 (v18 + 1) := (by rw [sNext_lt hN (by omega), show A 0 0 + 1 = v18 + 1 by omega])
               rw [e0]
               refine QC_ld (CV_w (f := 0) (by decide) hN.1) (TKN_sm (zuI_nf (by decide)) (zuI_nf (by decide)) (zuI_nf (by decide)) (zuI_nf (by decide)) hN.2.1) (by rw [up_eq]; omega) (by rw [up_eq, zuI_nf (by decide), e38, show v35 = v18 + 1 by omega]) (by rw [up_eq, zuI_nf (by decide), e54, show v51 = v18 + 1 by omega]) (by first | (rw [if_pos (by omega)]; omega) | rw [if_neg (by omega)]))
            | (rw [sNext_ge hN (by omega)]
               refine QC_ld hN.1 hN.2.1 (by omega) (by rw [e38, show v35 = A 0 0 by omega]) (by rw [e54, show v51 = A 0 0 by omega]) (by first | (rw [if_pos (by omega)]; omega) | rw [if_neg (by omega)]))⟩
  · skip
    refine zs_aload_n (pc := 16) C dX3_next_16 rfl ?_
    refine zs_dupa (pc := 17) C dX3_next_17 ?_
    refine zs_geti (r := 402) (pc := 18) C dX3_next_18 w_X3_48 f_4_2 rfl (r_402 0) (fun v18 e18 l18 u18 => ?_)
    refine zs_iconst (pc := 21) C dX3_next_21 (by decide) ?_
    first | refine zs_iadd (pc := 22) C dX3_next_22 (by omega) ?_ | refine zs_iaddF (pc := 22) C dX3_next_22 (fun z22 hz221 hz222 => ?_)
    refine zs_puti (r := 402) (pc := 23) C dX3_next_23 w_X3_48 f_4_2 rfl (r_402 0) (by omega) ?_
    refine zs_aload_n (pc := 26) C dX3_next_26 rfl ?_
    refine zs_aload_n (pc := 27) C dX3_next_27 rfl ?_
    refine zs_getf (pc := 28) C dX3_next_28 w_X3_12 f_4_0 (by decide) ?_
    refine zs_getf (pc := 31) C dX3_next_31 w_X3_63 f_7_1 (by decide) ?_
    refine zs_aload_n (pc := 34) C dX3_next_34 rfl ?_
    refine zs_geti (r := 402) (pc := 35) C dX3_next_35 w_X3_48 f_4_2 rfl (r_402 0) (fun v35 e35 l35 u35 => ?_)
    try simp only [zuI_1, zuI_2, zuJ_1, zuJ_2, zuJ_3, zuP_1, zuP_2, zuP_3, zuC_1, zuC_2, reduceIte, Nat.reduceEqDiff, false_and, and_false, true_and, and_true, and_self, or_true, true_or, or_false, false_or] at e35
    refine zs_iald (r := 2045) (pc := 38) C dX3_next_38 a_45 (by decide) (by omega) rfl (r_2045 _) (fun v38 e38 l38 u38 => ?_)
    try simp only [zuI_1, zuI_2, zuJ_1, zuJ_2, zuJ_3, zuP_1, zuP_2, zuP_3, zuC_1, zuC_2, reduceIte, Nat.reduceEqDiff, false_and, and_false, true_and, and_true, and_self, or_true, true_or, or_false, false_or] at e38
    refine zs_puti (r := 403) (pc := 39) C dX3_next_39 w_X3_54 f_4_3 rfl (r_403 0) (by omega) ?_
    refine zs_aload_n (pc := 42) C dX3_next_42 rfl ?_
    refine zs_aload_n (pc := 43) C dX3_next_43 rfl ?_
    refine zs_getf (pc := 44) C dX3_next_44 w_X3_12 f_4_0 (by decide) ?_
    refine zs_getf (pc := 47) C dX3_next_47 w_X3_65 f_7_3 (by decide) ?_
    refine zs_aload_n (pc := 50) C dX3_next_50 rfl ?_
    refine zs_geti (r := 402) (pc := 51) C dX3_next_51 w_X3_48 f_4_2 rfl (r_402 0) (fun v51 e51 l51 u51 => ?_)
    try simp only [zuI_1, zuI_2, zuJ_1, zuJ_2, zuJ_3, zuP_1, zuP_2, zuP_3, zuC_1, zuC_2, reduceIte, Nat.reduceEqDiff, false_and, and_false, true_and, and_true, and_self, or_true, true_or, or_false, false_or] at e51
    refine zs_iald (r := 2047) (pc := 54) C dX3_next_54 a_47 (by decide) (by omega) rfl (r_2047 _) (fun v54 e54 l54 u54 => ?_)
    try simp only [zuI_1, zuI_2, zuJ_1, zuJ_2, zuJ_3, zuP_1, zuP_2, zuP_3, zuC_1, zuC_2, reduceIte, Nat.reduceEqDiff, false_and, and_false, true_and, and_true, and_self, or_true, true_or, or_false, false_or] at e54
    refine zs_puti (r := 404) (pc := 55) C dX3_next_55 w_X3_68 f_4_4 rfl (r_404 0) (by omega) ?_
    refine zs_aload_n (pc := 58) C dX3_next_58 rfl ?_
    refine zs_aload_n (pc := 59) C dX3_next_59 rfl ?_
    refine zs_geti (r := 403) (pc := 60) C dX3_next_60 w_X3_54 f_4_3 rfl (r_403 0) (fun v60 e60 l60 u60 => ?_)
    try simp only [zuI_1, zuI_2, zuJ_1, zuJ_2, zuJ_3, zuP_1, zuP_2, zuP_3, zuC_1, zuC_2, reduceIte, Nat.reduceEqDiff, false_and, and_false, true_and, and_true, and_self, or_true, true_or, or_false, false_or] at e60
    refine zs_iconst (pc := 63) C dX3_next_63 (by decide) ?_
    refine zs_icmp_ne (tgt := 74) (pc := 64) C dX3_next_64 (by decide) (fun h64 => ?_) (fun h64 => ?_)
    · skip
      refine zs_iconst (pc := 74) C dX3_next_74 (by decide) ?_
      refine zs_puti (r := 405) (pc := 75) C dX3_next_75 w_X3_70 f_4_5 rfl (r_405 0) (by omega) ?_
      exact zs_vret (pc := 78) C hr hlk dX3_next_78 ⟨by repeat (first | exact zsm_rf | assumption | refine zsm_C (by decide) ?_ | refine zsm_I (by decide) ?_ | refine zsm_J ?_ | refine zsm_c (by assumption) (by decide) ?_), by
            first
            | (have e0 : sNext b n A = up A 0 0 (v18 + 1) := (by rw [sNext_lt hN (by omega), show A 0 0 + 1 = v18 + 1 by omega])
               rw [e0]
               refine QC_ld (CV_w (f := 0) (by decide) hN.1) (TKN_sm (zuI_nf (by decide)) (zuI_nf (by decide)) (zuI_nf (by decide)) (zuI_nf (by decide)) hN.2.1) (by rw [up_eq]; omega) (by rw [up_eq, zuI_nf (by decide), e38, show v35 = v18 + 1 by omega]) (by rw [up_eq, zuI_nf (by decide), e54, show v51 = v18 + 1 by omega]) (by first | (rw [if_pos (by omega)]; omega) | rw [if_neg (by omega)]))
            | (rw [sNext_ge hN (by omega)]
               refine QC_ld hN.1 hN.2.1 (by omega) (by rw [e38, show v35 = A 0 0 by omega]) (by rw [e54, show v51 = A 0 0 by omega]) (by first | (rw [if_pos (by omega)]; omega) | rw [if_neg (by omega)]))⟩
    · skip
      refine zs_aload_n (pc := 67) C dX3_next_67 rfl ?_
      refine zs_geti (r := 404) (pc := 68) C dX3_next_68 w_X3_68 f_4_4 rfl (r_404 0) (fun v68 e68 l68 u68 => ?_)
      try simp only [zuI_1, zuI_2, zuJ_1, zuJ_2, zuJ_3, zuP_1, zuP_2, zuP_3, zuC_1, zuC_2, reduceIte, Nat.reduceEqDiff, false_and, and_false, true_and, and_true, and_self, or_true, true_or, or_false, false_or] at e68
      refine zs_goto (tgt := 75) (pc := 71) C dX3_next_71 (by decide) ?_
      refine zs_puti (r := 405) (pc := 75) C dX3_next_75 w_X3_70 f_4_5 rfl (r_405 0) (by omega) ?_
      exact zs_vret (pc := 78) C hr hlk dX3_next_78 ⟨by repeat (first | exact zsm_rf | assumption | refine zsm_C (by decide) ?_ | refine zsm_I (by decide) ?_ | refine zsm_J ?_ | refine zsm_c (by assumption) (by decide) ?_), by
            first
            | (have e0 : sNext b n A = up A 0 0 (v18 + 1) := (by rw [sNext_lt hN (by omega), show A 0 0 + 1 = v18 + 1 by omega])
               rw [e0]
               refine QC_ld (CV_w (f := 0) (by decide) hN.1) (TKN_sm (zuI_nf (by decide)) (zuI_nf (by decide)) (zuI_nf (by decide)) (zuI_nf (by decide)) hN.2.1) (by rw [up_eq]; omega) (by rw [up_eq, zuI_nf (by decide), e38, show v35 = v18 + 1 by omega]) (by rw [up_eq, zuI_nf (by decide), e54, show v51 = v18 + 1 by omega]) (by first | (rw [if_pos (by omega)]; omega) | rw [if_neg (by omega)]))
            | (rw [sNext_ge hN (by omega)]
               refine QC_ld hN.1 hN.2.1 (by omega) (by rw [e38, show v35 = A 0 0 by omega]) (by rw [e54, show v51 = A 0 0 by omega]) (by first | (rw [if_pos (by omega)]; omega) | rw [if_neg (by omega)]))⟩

set_option maxHeartbeats 4000000 in
set_option maxRecDepth 100000 in
theorem c_X3_failF {l : Launch} {Γ : zΓ} {G : zH} {w t : Nat} {b : Nat → Int} {n : Int} {N : Nat} {A : aS} {k : Int} (hX : zXs Γ) (hZ : QC b n N Γ w t A G)  : zMet l Γ yX3_fail cX3_fail 2 none 0 [zr 4 w, zi k] G (zpv (fun G' => zsm [407, 408] G G' ∧ QC b n N Γ w t (sFail b n k A) G')) := by
  have hI := QC_t hZ
  have h7 := QC_n hZ
  refine zMet_of RX3 hX (by decide) rfl (Nat.le_of_ble_eq_true rfl) ?_
  intro p e s m args below meth c C hr hlk
  show Z p l e (zrm 0) s m args below meth c Γ 2 0 0 (MQ below (zQc Γ (zpv (fun G' => zsm [407, 408] G G' ∧ QC b n N Γ w t (sFail b n k A) G'))) args s 0 0 (zA Γ)) 0 [some (zr 4 w), some (zi k)] [] G
  refine zs_loc 1 rfl (fun ha1 hb1 => ?_)
  refine zs_aload_n (pc := 0) C dX3_fail_0 rfl ?_
  refine zs_geti (r := 407) (pc := 1) C dX3_fail_1 w_X3_38 f_4_7 rfl (r_407 0) (fun v1 e1 l1 u1 => ?_)
  try simp only [QC_407 hZ] at e1
  try subst v1
  refine zs_if_ne (tgt := 28) (pc := 4) C dX3_fail_4 (by decide) (fun h4 => ?_) (fun h4 => ?_)
  · skip
    exact zs_vret (pc := 28) C hr hlk dX3_fail_28 ⟨by repeat (first | exact zsm_rf | assumption | refine zsm_C (by decide) ?_ | refine zsm_I (by decide) ?_ | refine zsm_J ?_ | refine zsm_c (by assumption) (by decide) ?_), by
          first
          | (rw [sFail_1 (by omega)]; exact hZ)
          | (have e9 : tP b n A = v24 := (by rw [e24]; unfold tP; exact (TKN_at hZ.2.1 (by omega)).1.symm)
             rw [sFail_0 (by omega), e9]; exact (by repeat (first | assumption | apply QCw_407 | apply QCw_408 | apply QCw_406 | apply QCw_2037 | apply QCw_2036 | apply QCw_2038 | apply QCw_2039 | apply QCw_2040 | apply QCw_2041 | apply QCw_2042 | apply QCw_2043 | apply QCw_609 | apply QCw_610 | apply QCw_611 | apply QCw_612 | apply QCw_2016 | apply QCw_2017 | apply QCw_2014 | apply QCw_2015 | apply QCw_206 | apply QCw_207 | apply QCw_410 | apply QCw_411 | apply QCw_412 | apply QCw_413 | apply QCw_2025 | refine QC_g (by decide) ?_ | refine QC_sm (by assumption) (by decide) (by decide) ?_)))⟩
  · skip
    refine zs_aload_n (pc := 7) C dX3_fail_7 rfl ?_
    refine zs_iload_n (pc := 8) C dX3_fail_8 rfl ?_
    refine zs_puti (r := 407) (pc := 9) C dX3_fail_9 w_X3_38 f_4_7 rfl (r_407 0) (by omega) ?_
    refine zs_aload_n (pc := 12) C dX3_fail_12 rfl ?_
    refine zs_aload_n (pc := 13) C dX3_fail_13 rfl ?_
    refine zs_getf (pc := 14) C dX3_fail_14 w_X3_12 f_4_0 (by decide) ?_
    refine zs_getf (pc := 17) C dX3_fail_17 w_X3_73 f_7_2 (by decide) ?_
    refine zs_aload_n (pc := 20) C dX3_fail_20 rfl ?_
    refine zs_geti (r := 402) (pc := 21) C dX3_fail_21 w_X3_48 f_4_2 rfl (r_402 0) (fun v21 e21 l21 u21 => ?_)
    try simp only [zuI_1, zuI_2, zuJ_1, zuJ_2, zuJ_3, zuP_1, zuP_2, zuP_3, zuC_1, zuC_2, reduceIte, Nat.reduceEqDiff, false_and, and_false, true_and, and_true, and_self, or_true, true_or, or_false, false_or] at e21
    try simp only [QC_402 hZ] at e21
    try subst v21
    refine zs_iald (r := 2046) (pc := 24) C dX3_fail_24 a_46 (by decide) (by omega) rfl (r_2046 _) (fun v24 e24 l24 u24 => ?_)
    try simp only [zuI_1, zuI_2, zuJ_1, zuJ_2, zuJ_3, zuP_1, zuP_2, zuP_3, zuC_1, zuC_2, reduceIte, Nat.reduceEqDiff, false_and, and_false, true_and, and_true, and_self, or_true, true_or, or_false, false_or] at e24
    refine zs_puti (r := 408) (pc := 25) C dX3_fail_25 w_X3_42 f_4_8 rfl (r_408 0) (by omega) ?_
    exact zs_vret (pc := 28) C hr hlk dX3_fail_28 ⟨by repeat (first | exact zsm_rf | assumption | refine zsm_C (by decide) ?_ | refine zsm_I (by decide) ?_ | refine zsm_J ?_ | refine zsm_c (by assumption) (by decide) ?_), by
          first
          | (rw [sFail_1 (by omega)]; exact hZ)
          | (have e9 : tP b n A = v24 := (by rw [e24]; unfold tP; exact (TKN_at hZ.2.1 (by omega)).1.symm)
             rw [sFail_0 (by omega), e9]; exact (by repeat (first | assumption | apply QCw_407 | apply QCw_408 | apply QCw_406 | apply QCw_2037 | apply QCw_2036 | apply QCw_2038 | apply QCw_2039 | apply QCw_2040 | apply QCw_2041 | apply QCw_2042 | apply QCw_2043 | apply QCw_609 | apply QCw_610 | apply QCw_611 | apply QCw_612 | apply QCw_2016 | apply QCw_2017 | apply QCw_2014 | apply QCw_2015 | apply QCw_206 | apply QCw_207 | apply QCw_410 | apply QCw_411 | apply QCw_412 | apply QCw_413 | apply QCw_2025 | refine QC_g (by decide) ?_ | refine QC_sm (by assumption) (by decide) (by decide) ?_)))⟩

set_option maxHeartbeats 4000000 in
set_option maxRecDepth 100000 in
theorem c_X3_isSignF {l : Launch} {Γ : zΓ} {G : zH} {w t : Nat} {b : Nat → Int} {n : Int} {N : Nat} {A : aS} {k : Int} (hX : zXs Γ) (hZ : QC b n N Γ w t A G)  : zMet l Γ yX3_isSign cX3_isSign 2 (some .boolean) 0 [zr 4 w, zi k] G (zpi (fun x G' => G' = G ∧ ((x = 0 ∨ x = 1) ∧ (x = 1 ↔ tK b n A = 4 ∧ tV b n A = k)))) := by
  have hI := QC_t hZ
  have q404 := QC_404 hZ
  refine zMet_of RX3 hX (by decide) rfl (Nat.le_of_ble_eq_true rfl) ?_
  intro p e s m args below meth c C hr hlk
  show Z p l e (zrm 0) s m args below meth c Γ 2 0 0 (MQ below (zQc Γ (zpi (fun x G' => G' = G ∧ ((x = 0 ∨ x = 1) ∧ (x = 1 ↔ tK b n A = 4 ∧ tV b n A = k))))) args s 0 0 (zA Γ)) 0 [some (zr 4 w), some (zi k)] [] G
  refine zs_loc 1 rfl (fun ha1 hb1 => ?_)
  refine zs_aload_n (pc := 0) C dX3_isSign_0 rfl ?_
  refine zs_geti (r := 403) (pc := 1) C dX3_isSign_1 w_X3_54 f_4_3 rfl (r_403 0) (fun v1 e1 l1 u1 => ?_)
  try simp only [QC_403 hZ] at e1
  try subst v1
  refine zs_iconst (pc := 4) C dX3_isSign_4 (by decide) ?_
  refine zs_icmp_ne (tgt := 20) (pc := 5) C dX3_isSign_5 (by decide) (fun h5 => ?_) (fun h5 => ?_)
  · skip
    refine zs_iconst (pc := 20) C dX3_isSign_20 (by decide) ?_
    exact zs_zret (pc := 21) C hr hlk dX3_isSign_21 (by omega) ⟨rfl, by first | omega | (simp only [zuI_1, zuI_2, zuJ_1, zuJ_2, zuJ_3, zuP_1, zuP_2, zuP_3, zuC_1, zuC_2, reduceIte, Nat.reduceEqDiff, false_and, and_false, true_and, and_true, and_self, or_true, true_or, or_false, false_or]; omega)⟩
  · skip
    refine zs_aload_n (pc := 8) C dX3_isSign_8 rfl ?_
    refine zs_geti (r := 404) (pc := 9) C dX3_isSign_9 w_X3_68 f_4_4 rfl (r_404 0) (fun v9 e9 l9 u9 => ?_)
    refine zs_iload_n (pc := 12) C dX3_isSign_12 rfl ?_
    refine zs_icmp_ne (tgt := 20) (pc := 13) C dX3_isSign_13 (by decide) (fun h13 => ?_) (fun h13 => ?_)
    · skip
      refine zs_iconst (pc := 20) C dX3_isSign_20 (by decide) ?_
      exact zs_zret (pc := 21) C hr hlk dX3_isSign_21 (by omega) ⟨rfl, by first | omega | (simp only [zuI_1, zuI_2, zuJ_1, zuJ_2, zuJ_3, zuP_1, zuP_2, zuP_3, zuC_1, zuC_2, reduceIte, Nat.reduceEqDiff, false_and, and_false, true_and, and_true, and_self, or_true, true_or, or_false, false_or]; omega)⟩
    · skip
      refine zs_iconst (pc := 16) C dX3_isSign_16 (by decide) ?_
      refine zs_goto (tgt := 21) (pc := 17) C dX3_isSign_17 (by decide) ?_
      exact zs_zret (pc := 21) C hr hlk dX3_isSign_21 (by omega) ⟨rfl, by first | omega | (simp only [zuI_1, zuI_2, zuJ_1, zuJ_2, zuJ_3, zuP_1, zuP_2, zuP_3, zuC_1, zuC_2, reduceIte, Nat.reduceEqDiff, false_and, and_false, true_and, and_true, and_self, or_true, true_or, or_false, false_or]; omega)⟩

set_option maxHeartbeats 4000000 in
set_option maxRecDepth 100000 in
theorem c_X3_readNumberF {l : Launch} {Γ : zΓ} {G : zH} {w t : Nat} {b : Nat → Int} {n : Int} {N : Nat} {A : aS} {lo hi : Int} (hX : zXs Γ) (hZ : QC b n N Γ w t A G) (hab : 0 ≤ lo ∧ lo ≤ hi ∧ hi ≤ 99999) : zMet l Γ yX3_readNumber cX3_readNumber 4 (some .int) 1 [zr 4 w, zi lo, zi hi] G (zpi (fun x G' => zsm [402, 403, 404, 405, 406, 407, 408, 409, 410, 411, 412, 413, 2025, 206, 207, 2014, 2015, 2016, 2017, 2036, 2037, 2038, 2039, 2040, 2041, 2042, 2043, 609, 610, 611, 612] G G' ∧ (QC b n N Γ w t (sNum b n lo hi A) G' ∧ (x = sNumV b n lo hi A ∧ lo ≤ x ∧ x ≤ hi)))) := by
  have hI := QC_t hZ
  have q404 := QC_404 hZ
  have f1 := sFail_f (b := b) (n := n) (A := A) (show (1 : Int) ≠ 0 by decide)
  have f2 := sFail_f (b := b) (n := n) (A := A) (show (2 : Int) ≠ 0 by decide)
  refine zMet_of RX3 hX (by decide) rfl (Nat.le_of_ble_eq_true rfl) ?_
  intro p e s m args below meth c C hr hlk
  show Z p l e (zrm 1) s m args below meth c Γ 4 0 0 (MQ below (zQc Γ (zpi (fun x G' => zsm [402, 403, 404, 405, 406, 407, 408, 409, 410, 411, 412, 413, 2025, 206, 207, 2014, 2015, 2016, 2017, 2036, 2037, 2038, 2039, 2040, 2041, 2042, 2043, 609, 610, 611, 612] G G' ∧ (QC b n N Γ w t (sNum b n lo hi A) G' ∧ (x = sNumV b n lo hi A ∧ lo ≤ x ∧ x ≤ hi))))) args s 0 0 (zA Γ)) 0 [some (zr 4 w), some (zi lo), some (zi hi), none] [] G
  refine zs_loc 1 rfl (fun ha1 hb1 => ?_)
  refine zs_loc 2 rfl (fun ha2 hb2 => ?_)
  refine zs_aload_n (pc := 0) C dX3_readNumber_0 rfl ?_
  refine zs_geti (r := 403) (pc := 1) C dX3_readNumber_1 w_X3_54 f_4_3 rfl (r_403 0) (fun v1 e1 l1 u1 => ?_)
  try simp only [QC_403 hZ] at e1
  try subst v1
  refine zs_iconst (pc := 4) C dX3_readNumber_4 (by decide) ?_
  refine zs_icmp_eq (tgt := 16) (pc := 5) C dX3_readNumber_5 (by decide) (fun h5 => ?_) (fun h5 => ?_)
  · skip
    refine zs_aload_n (pc := 16) C dX3_readNumber_16 rfl ?_
    refine zs_geti (r := 404) (pc := 17) C dX3_readNumber_17 w_X3_68 f_4_4 rfl (r_404 0) (fun v17 e17 l17 u17 => ?_)
    refine zs_iload_n (pc := 20) C dX3_readNumber_20 rfl ?_
    refine zs_icmp_lt (tgt := 32) (pc := 21) C dX3_readNumber_21 (by decide) (fun h21 => ?_) (fun h21 => ?_)
    · skip
      refine zs_aload_n (pc := 32) C dX3_readNumber_32 rfl ?_
      refine zs_iconst (pc := 33) C dX3_readNumber_33 (by decide) ?_
      refine zVv1 (pc := 34) C dX3_readNumber_34 v_X3_114 (c_X3_failF hX (by repeat (first | assumption | apply QCw_407 | apply QCw_408 | apply QCw_406 | apply QCw_2037 | apply QCw_2036 | apply QCw_2038 | apply QCw_2039 | apply QCw_2040 | apply QCw_2041 | apply QCw_2042 | apply QCw_2043 | apply QCw_609 | apply QCw_610 | apply QCw_611 | apply QCw_612 | apply QCw_2016 | apply QCw_2017 | apply QCw_2014 | apply QCw_2015 | apply QCw_206 | apply QCw_207 | apply QCw_410 | apply QCw_411 | apply QCw_412 | apply QCw_413 | apply QCw_2025 | refine QC_g (by decide) ?_ | refine QC_sm (by assumption) (by decide) (by decide) ?_))) (by decide) (by decide) ⟨Nat.zero_le _, Nat.zero_le _⟩ (Nat.le_of_ble_eq_true rfl) (fun G34 hp34 => ?_)
      obtain ⟨hz34, hq34⟩ := hp34
      have hZ34 := hq34
      refine zs_aload_n (pc := 37) C dX3_readNumber_37 rfl ?_
      refine zs_geti (r := 407) (pc := 38) C dX3_readNumber_38 w_X3_38 f_4_7 rfl (r_407 0) (fun v38 e38 l38 u38 => ?_)
      try simp only [QC_407 hZ34, QC_407 hZ] at e38
      try subst v38
      refine zs_if_eq (tgt := 46) (pc := 41) C dX3_readNumber_41 (by decide) (fun h41 => ?_) (fun h41 => ?_)
      · skip
        refine zs_aload_n (pc := 46) C dX3_readNumber_46 rfl ?_
        refine zs_geti (r := 404) (pc := 47) C dX3_readNumber_47 w_X3_68 f_4_4 rfl (r_404 0) (fun v47 e47 l47 u47 => ?_)
        refine zs_istore_n (pc := 50) C dX3_readNumber_50 (by decide) ?_
        dsimp only [zset, zclr, znone]
        refine zs_aload_n (pc := 51) C dX3_readNumber_51 rfl ?_
        refine zVv0 (pc := 52) C dX3_readNumber_52 v_X3_51 (c_X3_nextF hX (QN_of (by repeat (first | assumption | apply QCw_407 | apply QCw_408 | apply QCw_406 | apply QCw_2037 | apply QCw_2036 | apply QCw_2038 | apply QCw_2039 | apply QCw_2040 | apply QCw_2041 | apply QCw_2042 | apply QCw_2043 | apply QCw_609 | apply QCw_610 | apply QCw_611 | apply QCw_612 | apply QCw_2016 | apply QCw_2017 | apply QCw_2014 | apply QCw_2015 | apply QCw_206 | apply QCw_207 | apply QCw_410 | apply QCw_411 | apply QCw_412 | apply QCw_413 | apply QCw_2025 | refine QC_g (by decide) ?_ | refine QC_sm (by assumption) (by decide) (by decide) ?_)))) (by decide) (by decide) ⟨Nat.zero_le _, Nat.zero_le _⟩ (Nat.le_of_ble_eq_true rfl) (fun G52 hp52 => ?_)
        obtain ⟨hz52, hq52⟩ := hp52
        have hZ52 := hq52
        refine zs_iload_n (pc := 55) C dX3_readNumber_55 rfl ?_
        exact zs_iret (pc := 56) C hr hlk dX3_readNumber_56 ⟨by repeat (first | exact zsm_rf | assumption | refine zsm_C (by decide) ?_ | refine zsm_I (by decide) ?_ | refine zsm_J ?_ | refine zsm_c (by assumption) (by decide) ?_), ⟨(by unfold sNum sNumB; (repeat' split) <;> first | assumption | (exfalso; omega) | exact (by repeat (first | assumption | apply QCw_407 | apply QCw_408 | apply QCw_406 | apply QCw_2037 | apply QCw_2036 | apply QCw_2038 | apply QCw_2039 | apply QCw_2040 | apply QCw_2041 | apply QCw_2042 | apply QCw_2043 | apply QCw_609 | apply QCw_610 | apply QCw_611 | apply QCw_612 | apply QCw_2016 | apply QCw_2017 | apply QCw_2014 | apply QCw_2015 | apply QCw_206 | apply QCw_207 | apply QCw_410 | apply QCw_411 | apply QCw_412 | apply QCw_413 | apply QCw_2025 | refine QC_g (by decide) ?_ | refine QC_sm (by assumption) (by decide) (by decide) ?_))), ⟨(by unfold sNumV; (repeat' split) <;> first | rfl | omega), by omega, by omega⟩⟩⟩
      · skip
        refine zs_iload_n (pc := 44) C dX3_readNumber_44 rfl ?_
        exact zs_iret (pc := 45) C hr hlk dX3_readNumber_45 ⟨by repeat (first | exact zsm_rf | assumption | refine zsm_C (by decide) ?_ | refine zsm_I (by decide) ?_ | refine zsm_J ?_ | refine zsm_c (by assumption) (by decide) ?_), ⟨(by unfold sNum sNumB; (repeat' split) <;> first | assumption | (exfalso; omega) | exact (by repeat (first | assumption | apply QCw_407 | apply QCw_408 | apply QCw_406 | apply QCw_2037 | apply QCw_2036 | apply QCw_2038 | apply QCw_2039 | apply QCw_2040 | apply QCw_2041 | apply QCw_2042 | apply QCw_2043 | apply QCw_609 | apply QCw_610 | apply QCw_611 | apply QCw_612 | apply QCw_2016 | apply QCw_2017 | apply QCw_2014 | apply QCw_2015 | apply QCw_206 | apply QCw_207 | apply QCw_410 | apply QCw_411 | apply QCw_412 | apply QCw_413 | apply QCw_2025 | refine QC_g (by decide) ?_ | refine QC_sm (by assumption) (by decide) (by decide) ?_))), ⟨(by unfold sNumV; (repeat' split) <;> first | rfl | omega), by omega, by omega⟩⟩⟩
    · skip
      refine zs_aload_n (pc := 24) C dX3_readNumber_24 rfl ?_
      refine zs_geti (r := 404) (pc := 25) C dX3_readNumber_25 w_X3_68 f_4_4 rfl (r_404 0) (fun v25 e25 l25 u25 => ?_)
      refine zs_iload_n (pc := 28) C dX3_readNumber_28 rfl ?_
      refine zs_icmp_le (tgt := 37) (pc := 29) C dX3_readNumber_29 (by decide) (fun h29 => ?_) (fun h29 => ?_)
      · skip
        refine zs_aload_n (pc := 37) C dX3_readNumber_37 rfl ?_
        refine zs_geti (r := 407) (pc := 38) C dX3_readNumber_38 w_X3_38 f_4_7 rfl (r_407 0) (fun v38 e38 l38 u38 => ?_)
        try simp only [QC_407 hZ] at e38
        try subst v38
        refine zs_if_eq (tgt := 46) (pc := 41) C dX3_readNumber_41 (by decide) (fun h41 => ?_) (fun h41 => ?_)
        · skip
          refine zs_aload_n (pc := 46) C dX3_readNumber_46 rfl ?_
          refine zs_geti (r := 404) (pc := 47) C dX3_readNumber_47 w_X3_68 f_4_4 rfl (r_404 0) (fun v47 e47 l47 u47 => ?_)
          refine zs_istore_n (pc := 50) C dX3_readNumber_50 (by decide) ?_
          dsimp only [zset, zclr, znone]
          refine zs_aload_n (pc := 51) C dX3_readNumber_51 rfl ?_
          refine zVv0 (pc := 52) C dX3_readNumber_52 v_X3_51 (c_X3_nextF hX (QN_of (by repeat (first | assumption | apply QCw_407 | apply QCw_408 | apply QCw_406 | apply QCw_2037 | apply QCw_2036 | apply QCw_2038 | apply QCw_2039 | apply QCw_2040 | apply QCw_2041 | apply QCw_2042 | apply QCw_2043 | apply QCw_609 | apply QCw_610 | apply QCw_611 | apply QCw_612 | apply QCw_2016 | apply QCw_2017 | apply QCw_2014 | apply QCw_2015 | apply QCw_206 | apply QCw_207 | apply QCw_410 | apply QCw_411 | apply QCw_412 | apply QCw_413 | apply QCw_2025 | refine QC_g (by decide) ?_ | refine QC_sm (by assumption) (by decide) (by decide) ?_)))) (by decide) (by decide) ⟨Nat.zero_le _, Nat.zero_le _⟩ (Nat.le_of_ble_eq_true rfl) (fun G52 hp52 => ?_)
          obtain ⟨hz52, hq52⟩ := hp52
          have hZ52 := hq52
          refine zs_iload_n (pc := 55) C dX3_readNumber_55 rfl ?_
          exact zs_iret (pc := 56) C hr hlk dX3_readNumber_56 ⟨by repeat (first | exact zsm_rf | assumption | refine zsm_C (by decide) ?_ | refine zsm_I (by decide) ?_ | refine zsm_J ?_ | refine zsm_c (by assumption) (by decide) ?_), ⟨(by unfold sNum sNumB; (repeat' split) <;> first | assumption | (exfalso; omega) | exact (by repeat (first | assumption | apply QCw_407 | apply QCw_408 | apply QCw_406 | apply QCw_2037 | apply QCw_2036 | apply QCw_2038 | apply QCw_2039 | apply QCw_2040 | apply QCw_2041 | apply QCw_2042 | apply QCw_2043 | apply QCw_609 | apply QCw_610 | apply QCw_611 | apply QCw_612 | apply QCw_2016 | apply QCw_2017 | apply QCw_2014 | apply QCw_2015 | apply QCw_206 | apply QCw_207 | apply QCw_410 | apply QCw_411 | apply QCw_412 | apply QCw_413 | apply QCw_2025 | refine QC_g (by decide) ?_ | refine QC_sm (by assumption) (by decide) (by decide) ?_))), ⟨(by unfold sNumV; (repeat' split) <;> first | rfl | omega), by omega, by omega⟩⟩⟩
        · skip
          refine zs_iload_n (pc := 44) C dX3_readNumber_44 rfl ?_
          exact zs_iret (pc := 45) C hr hlk dX3_readNumber_45 ⟨by repeat (first | exact zsm_rf | assumption | refine zsm_C (by decide) ?_ | refine zsm_I (by decide) ?_ | refine zsm_J ?_ | refine zsm_c (by assumption) (by decide) ?_), ⟨(by unfold sNum sNumB; (repeat' split) <;> first | assumption | (exfalso; omega) | exact (by repeat (first | assumption | apply QCw_407 | apply QCw_408 | apply QCw_406 | apply QCw_2037 | apply QCw_2036 | apply QCw_2038 | apply QCw_2039 | apply QCw_2040 | apply QCw_2041 | apply QCw_2042 | apply QCw_2043 | apply QCw_609 | apply QCw_610 | apply QCw_611 | apply QCw_612 | apply QCw_2016 | apply QCw_2017 | apply QCw_2014 | apply QCw_2015 | apply QCw_206 | apply QCw_207 | apply QCw_410 | apply QCw_411 | apply QCw_412 | apply QCw_413 | apply QCw_2025 | refine QC_g (by decide) ?_ | refine QC_sm (by assumption) (by decide) (by decide) ?_))), ⟨(by unfold sNumV; (repeat' split) <;> first | rfl | omega), by omega, by omega⟩⟩⟩
      · skip
        refine zs_aload_n (pc := 32) C dX3_readNumber_32 rfl ?_
        refine zs_iconst (pc := 33) C dX3_readNumber_33 (by decide) ?_
        refine zVv1 (pc := 34) C dX3_readNumber_34 v_X3_114 (c_X3_failF hX (by repeat (first | assumption | apply QCw_407 | apply QCw_408 | apply QCw_406 | apply QCw_2037 | apply QCw_2036 | apply QCw_2038 | apply QCw_2039 | apply QCw_2040 | apply QCw_2041 | apply QCw_2042 | apply QCw_2043 | apply QCw_609 | apply QCw_610 | apply QCw_611 | apply QCw_612 | apply QCw_2016 | apply QCw_2017 | apply QCw_2014 | apply QCw_2015 | apply QCw_206 | apply QCw_207 | apply QCw_410 | apply QCw_411 | apply QCw_412 | apply QCw_413 | apply QCw_2025 | refine QC_g (by decide) ?_ | refine QC_sm (by assumption) (by decide) (by decide) ?_))) (by decide) (by decide) ⟨Nat.zero_le _, Nat.zero_le _⟩ (Nat.le_of_ble_eq_true rfl) (fun G34 hp34 => ?_)
        obtain ⟨hz34, hq34⟩ := hp34
        have hZ34 := hq34
        refine zs_aload_n (pc := 37) C dX3_readNumber_37 rfl ?_
        refine zs_geti (r := 407) (pc := 38) C dX3_readNumber_38 w_X3_38 f_4_7 rfl (r_407 0) (fun v38 e38 l38 u38 => ?_)
        try simp only [QC_407 hZ34, QC_407 hZ] at e38
        try subst v38
        refine zs_if_eq (tgt := 46) (pc := 41) C dX3_readNumber_41 (by decide) (fun h41 => ?_) (fun h41 => ?_)
        · skip
          refine zs_aload_n (pc := 46) C dX3_readNumber_46 rfl ?_
          refine zs_geti (r := 404) (pc := 47) C dX3_readNumber_47 w_X3_68 f_4_4 rfl (r_404 0) (fun v47 e47 l47 u47 => ?_)
          refine zs_istore_n (pc := 50) C dX3_readNumber_50 (by decide) ?_
          dsimp only [zset, zclr, znone]
          refine zs_aload_n (pc := 51) C dX3_readNumber_51 rfl ?_
          refine zVv0 (pc := 52) C dX3_readNumber_52 v_X3_51 (c_X3_nextF hX (QN_of (by repeat (first | assumption | apply QCw_407 | apply QCw_408 | apply QCw_406 | apply QCw_2037 | apply QCw_2036 | apply QCw_2038 | apply QCw_2039 | apply QCw_2040 | apply QCw_2041 | apply QCw_2042 | apply QCw_2043 | apply QCw_609 | apply QCw_610 | apply QCw_611 | apply QCw_612 | apply QCw_2016 | apply QCw_2017 | apply QCw_2014 | apply QCw_2015 | apply QCw_206 | apply QCw_207 | apply QCw_410 | apply QCw_411 | apply QCw_412 | apply QCw_413 | apply QCw_2025 | refine QC_g (by decide) ?_ | refine QC_sm (by assumption) (by decide) (by decide) ?_)))) (by decide) (by decide) ⟨Nat.zero_le _, Nat.zero_le _⟩ (Nat.le_of_ble_eq_true rfl) (fun G52 hp52 => ?_)
          obtain ⟨hz52, hq52⟩ := hp52
          have hZ52 := hq52
          refine zs_iload_n (pc := 55) C dX3_readNumber_55 rfl ?_
          exact zs_iret (pc := 56) C hr hlk dX3_readNumber_56 ⟨by repeat (first | exact zsm_rf | assumption | refine zsm_C (by decide) ?_ | refine zsm_I (by decide) ?_ | refine zsm_J ?_ | refine zsm_c (by assumption) (by decide) ?_), ⟨(by unfold sNum sNumB; (repeat' split) <;> first | assumption | (exfalso; omega) | exact (by repeat (first | assumption | apply QCw_407 | apply QCw_408 | apply QCw_406 | apply QCw_2037 | apply QCw_2036 | apply QCw_2038 | apply QCw_2039 | apply QCw_2040 | apply QCw_2041 | apply QCw_2042 | apply QCw_2043 | apply QCw_609 | apply QCw_610 | apply QCw_611 | apply QCw_612 | apply QCw_2016 | apply QCw_2017 | apply QCw_2014 | apply QCw_2015 | apply QCw_206 | apply QCw_207 | apply QCw_410 | apply QCw_411 | apply QCw_412 | apply QCw_413 | apply QCw_2025 | refine QC_g (by decide) ?_ | refine QC_sm (by assumption) (by decide) (by decide) ?_))), ⟨(by unfold sNumV; (repeat' split) <;> first | rfl | omega), by omega, by omega⟩⟩⟩
        · skip
          refine zs_iload_n (pc := 44) C dX3_readNumber_44 rfl ?_
          exact zs_iret (pc := 45) C hr hlk dX3_readNumber_45 ⟨by repeat (first | exact zsm_rf | assumption | refine zsm_C (by decide) ?_ | refine zsm_I (by decide) ?_ | refine zsm_J ?_ | refine zsm_c (by assumption) (by decide) ?_), ⟨(by unfold sNum sNumB; (repeat' split) <;> first | assumption | (exfalso; omega) | exact (by repeat (first | assumption | apply QCw_407 | apply QCw_408 | apply QCw_406 | apply QCw_2037 | apply QCw_2036 | apply QCw_2038 | apply QCw_2039 | apply QCw_2040 | apply QCw_2041 | apply QCw_2042 | apply QCw_2043 | apply QCw_609 | apply QCw_610 | apply QCw_611 | apply QCw_612 | apply QCw_2016 | apply QCw_2017 | apply QCw_2014 | apply QCw_2015 | apply QCw_206 | apply QCw_207 | apply QCw_410 | apply QCw_411 | apply QCw_412 | apply QCw_413 | apply QCw_2025 | refine QC_g (by decide) ?_ | refine QC_sm (by assumption) (by decide) (by decide) ?_))), ⟨(by unfold sNumV; (repeat' split) <;> first | rfl | omega), by omega, by omega⟩⟩⟩
  · skip
    refine zs_aload_n (pc := 8) C dX3_readNumber_8 rfl ?_
    refine zs_iconst (pc := 9) C dX3_readNumber_9 (by decide) ?_
    refine zVv1 (pc := 10) C dX3_readNumber_10 v_X3_114 (c_X3_failF hX (by repeat (first | assumption | apply QCw_407 | apply QCw_408 | apply QCw_406 | apply QCw_2037 | apply QCw_2036 | apply QCw_2038 | apply QCw_2039 | apply QCw_2040 | apply QCw_2041 | apply QCw_2042 | apply QCw_2043 | apply QCw_609 | apply QCw_610 | apply QCw_611 | apply QCw_612 | apply QCw_2016 | apply QCw_2017 | apply QCw_2014 | apply QCw_2015 | apply QCw_206 | apply QCw_207 | apply QCw_410 | apply QCw_411 | apply QCw_412 | apply QCw_413 | apply QCw_2025 | refine QC_g (by decide) ?_ | refine QC_sm (by assumption) (by decide) (by decide) ?_))) (by decide) (by decide) ⟨Nat.zero_le _, Nat.zero_le _⟩ (Nat.le_of_ble_eq_true rfl) (fun G10 hp10 => ?_)
    obtain ⟨hz10, hq10⟩ := hp10
    have hZ10 := hq10
    refine zs_goto (tgt := 37) (pc := 13) C dX3_readNumber_13 (by decide) ?_
    refine zs_aload_n (pc := 37) C dX3_readNumber_37 rfl ?_
    refine zs_geti (r := 407) (pc := 38) C dX3_readNumber_38 w_X3_38 f_4_7 rfl (r_407 0) (fun v38 e38 l38 u38 => ?_)
    try simp only [QC_407 hZ10, QC_407 hZ] at e38
    try subst v38
    refine zs_if_eq (tgt := 46) (pc := 41) C dX3_readNumber_41 (by decide) (fun h41 => ?_) (fun h41 => ?_)
    · skip
      refine zs_aload_n (pc := 46) C dX3_readNumber_46 rfl ?_
      refine zs_geti (r := 404) (pc := 47) C dX3_readNumber_47 w_X3_68 f_4_4 rfl (r_404 0) (fun v47 e47 l47 u47 => ?_)
      refine zs_istore_n (pc := 50) C dX3_readNumber_50 (by decide) ?_
      dsimp only [zset, zclr, znone]
      refine zs_aload_n (pc := 51) C dX3_readNumber_51 rfl ?_
      refine zVv0 (pc := 52) C dX3_readNumber_52 v_X3_51 (c_X3_nextF hX (QN_of (by repeat (first | assumption | apply QCw_407 | apply QCw_408 | apply QCw_406 | apply QCw_2037 | apply QCw_2036 | apply QCw_2038 | apply QCw_2039 | apply QCw_2040 | apply QCw_2041 | apply QCw_2042 | apply QCw_2043 | apply QCw_609 | apply QCw_610 | apply QCw_611 | apply QCw_612 | apply QCw_2016 | apply QCw_2017 | apply QCw_2014 | apply QCw_2015 | apply QCw_206 | apply QCw_207 | apply QCw_410 | apply QCw_411 | apply QCw_412 | apply QCw_413 | apply QCw_2025 | refine QC_g (by decide) ?_ | refine QC_sm (by assumption) (by decide) (by decide) ?_)))) (by decide) (by decide) ⟨Nat.zero_le _, Nat.zero_le _⟩ (Nat.le_of_ble_eq_true rfl) (fun G52 hp52 => ?_)
      obtain ⟨hz52, hq52⟩ := hp52
      have hZ52 := hq52
      refine zs_iload_n (pc := 55) C dX3_readNumber_55 rfl ?_
      exact zs_iret (pc := 56) C hr hlk dX3_readNumber_56 ⟨by repeat (first | exact zsm_rf | assumption | refine zsm_C (by decide) ?_ | refine zsm_I (by decide) ?_ | refine zsm_J ?_ | refine zsm_c (by assumption) (by decide) ?_), ⟨(by unfold sNum sNumB; (repeat' split) <;> first | assumption | (exfalso; omega) | exact (by repeat (first | assumption | apply QCw_407 | apply QCw_408 | apply QCw_406 | apply QCw_2037 | apply QCw_2036 | apply QCw_2038 | apply QCw_2039 | apply QCw_2040 | apply QCw_2041 | apply QCw_2042 | apply QCw_2043 | apply QCw_609 | apply QCw_610 | apply QCw_611 | apply QCw_612 | apply QCw_2016 | apply QCw_2017 | apply QCw_2014 | apply QCw_2015 | apply QCw_206 | apply QCw_207 | apply QCw_410 | apply QCw_411 | apply QCw_412 | apply QCw_413 | apply QCw_2025 | refine QC_g (by decide) ?_ | refine QC_sm (by assumption) (by decide) (by decide) ?_))), ⟨(by unfold sNumV; (repeat' split) <;> first | rfl | omega), by omega, by omega⟩⟩⟩
    · skip
      refine zs_iload_n (pc := 44) C dX3_readNumber_44 rfl ?_
      exact zs_iret (pc := 45) C hr hlk dX3_readNumber_45 ⟨by repeat (first | exact zsm_rf | assumption | refine zsm_C (by decide) ?_ | refine zsm_I (by decide) ?_ | refine zsm_J ?_ | refine zsm_c (by assumption) (by decide) ?_), ⟨(by unfold sNum sNumB; (repeat' split) <;> first | assumption | (exfalso; omega) | exact (by repeat (first | assumption | apply QCw_407 | apply QCw_408 | apply QCw_406 | apply QCw_2037 | apply QCw_2036 | apply QCw_2038 | apply QCw_2039 | apply QCw_2040 | apply QCw_2041 | apply QCw_2042 | apply QCw_2043 | apply QCw_609 | apply QCw_610 | apply QCw_611 | apply QCw_612 | apply QCw_2016 | apply QCw_2017 | apply QCw_2014 | apply QCw_2015 | apply QCw_206 | apply QCw_207 | apply QCw_410 | apply QCw_411 | apply QCw_412 | apply QCw_413 | apply QCw_2025 | refine QC_g (by decide) ?_ | refine QC_sm (by assumption) (by decide) (by decide) ?_))), ⟨(by unfold sNumV; (repeat' split) <;> first | rfl | omega), by omega, by omega⟩⟩⟩

set_option maxHeartbeats 4000000 in
set_option maxRecDepth 100000 in
theorem c_X5_isFullF {l : Launch} {Γ : zΓ} {G : zH} {w t : Nat} {b : Nat → Int} {n : Int} {N : Nat} {A : aS} {kd : Int} (hX : zXs Γ) (hZ : QC b n N Γ w t A G) (hk : 0 ≤ kd ∧ kd ≤ 3) : zMet l Γ yX5_isFull cX5_isFull 2 (some .boolean) 0 [zr 6 t, zi kd] G (zpi (fun x G' => G' = G ∧ ((x = 0 ∨ x = 1) ∧ (x = 1 ↔ mst kd ≤ A 4 kd.toNat) ∧ (x = 0 → A 4 kd.toNat + 1 ≤ (zrg 2037 kd.toNat).2)))) := by
  have hI := QC_t hZ
  refine zMet_of RX5 hX (by decide) rfl (Nat.le_of_ble_eq_true rfl) ?_
  intro p e s m args below meth c C hr hlk
  show Z p l e (zrm 0) s m args below meth c Γ 2 0 0 (MQ below (zQc Γ (zpi (fun x G' => G' = G ∧ ((x = 0 ∨ x = 1) ∧ (x = 1 ↔ mst kd ≤ A 4 kd.toNat) ∧ (x = 0 → A 4 kd.toNat + 1 ≤ (zrg 2037 kd.toNat).2))))) args s 0 0 (zA Γ)) 0 [some (zr 6 t), some (zi kd)] [] G
  refine zs_loc 1 rfl (fun ha1 hb1 => ?_)
  refine zs_aload_n (pc := 0) C dX5_isFull_0 rfl ?_
  refine zs_getf (pc := 1) C dX5_isFull_1 w_X5_22 f_6_2 (by decide) ?_
  refine zs_iload_n (pc := 4) C dX5_isFull_4 rfl ?_
  refine zs_iald (r := 2037) (pc := 5) C dX5_isFull_5 a_37 (by decide) (by omega) rfl rfl (fun v5 e5 l5 u5 => ?_)
  try simp only [QC_2037 hZ] at e5
  try subst v5
  refine zs_most (pc := 6) C dX5_isFull_6 q_X5_69 ?_
  refine zs_iload_n (pc := 9) C dX5_isFull_9 rfl ?_
  refine zs_xald (pc := 10) C 0 dX5_isFull_10 (by decide) rfl (by have := hX.1; have := hX.2.1; omega) (fun v10 e10 l10 u10 => ?_)
  have hm := hX.2.2.1 kd.toNat (by omega)
  have hm2 := zX0_2037 kd.toNat (by omega)
  have hm3 : v10 = mst kd := e10.trans hm
  refine zs_icmp_lt (tgt := 18) (pc := 11) C dX5_isFull_11 (by decide) (fun h11 => ?_) (fun h11 => ?_)
  · skip
    refine zs_iconst (pc := 18) C dX5_isFull_18 (by decide) ?_
    exact zs_zret (pc := 19) C hr hlk dX5_isFull_19 (by omega) ⟨rfl, by first | omega | (simp only [zuI_1, zuI_2, zuJ_1, zuJ_2, zuJ_3, zuP_1, zuP_2, zuP_3, zuC_1, zuC_2, reduceIte, Nat.reduceEqDiff, false_and, and_false, true_and, and_true, and_self, or_true, true_or, or_false, false_or]; omega)⟩
  · skip
    refine zs_iconst (pc := 14) C dX5_isFull_14 (by decide) ?_
    refine zs_goto (tgt := 19) (pc := 15) C dX5_isFull_15 (by decide) ?_
    exact zs_zret (pc := 19) C hr hlk dX5_isFull_19 (by omega) ⟨rfl, by first | omega | (simp only [zuI_1, zuI_2, zuJ_1, zuJ_2, zuJ_3, zuP_1, zuP_2, zuP_3, zuC_1, zuC_2, reduceIte, Nat.reduceEqDiff, false_and, and_false, true_and, and_true, and_self, or_true, true_or, or_false, false_or]; omega)⟩

set_option maxHeartbeats 4000000 in
set_option maxRecDepth 100000 in
theorem c_X5_findF {l : Launch} {Γ : zΓ} {G : zH} {w t : Nat} {b : Nat → Int} {n : Int} {N : Nat} {A : aS} {kd k : Int} (hX : zXs Γ) (hZ : QC b n N Γ w t A G) (hk : 0 ≤ kd ∧ kd ≤ 3) : zMet l Γ yX5_find cX5_find 4 (some .int) 0 [zr 6 t, zi kd, zi k] G (zpi (fun x G' => G' = G ∧ (x = sFind kd k A ∧ -1 ≤ x ∧ x < 5 ∧ (kd = 0 → x < 4) ∧ (kd = 3 → x < 3)))) := by
  have hI := QC_t hZ
  refine zMet_of RX5 hX (by decide) rfl (Nat.le_of_ble_eq_true rfl) ?_
  intro p e s m args below meth c C hr hlk
  show Z p l e (zrm 0) s m args below meth c Γ 4 0 0 (MQ below (zQc Γ (zpi (fun x G' => G' = G ∧ (x = sFind kd k A ∧ -1 ≤ x ∧ x < 5 ∧ (kd = 0 → x < 4) ∧ (kd = 3 → x < 3))))) args s 0 0 (zA Γ)) 0 [some (zr 6 t), some (zi kd), some (zi k), none] [] G
  refine zs_loc 1 rfl (fun ha1 hb1 => ?_)
  refine zs_loc 2 rfl (fun ha2 hb2 => ?_)
  refine zs_iconst (pc := 0) C dX5_find_0 (by decide) ?_
  refine zs_istore_n (pc := 1) C dX5_find_1 (by decide) ?_
  dsimp only [zset, zclr, znone]
  have L2 : ∀ (nn : Nat) (x3 : Int), (0 ≤ x3 ∧ x3 ≤ 5) → (fndn (A 5) (kd * 5) k (A 4 kd.toNat - x3).toNat x3 = sFind kd k A) → (5 - x3).toNat < nn → Z p l e (zrm 0) s m args below meth c Γ 4 0 0 (MQ below (zQc Γ (zpi (fun x G' => G' = G ∧ (x = sFind kd k A ∧ -1 ≤ x ∧ x < 5 ∧ (kd = 0 → x < 4) ∧ (kd = 3 → x < 3))))) args s 0 0 (zA Γ)) 2 [some (zr 6 t), some (zi kd), some (zi k), some (zi x3)] [] G := by
    intro nn
    induction nn with
    | zero => intro x3 h2_0 h2_1 hm; exact absurd hm (Nat.not_lt_zero _)
    | succ nn ih2 =>
      intro x3 h2_0 h2_1 hm2
      refine zs_iload_n (pc := 2) C dX5_find_2 rfl ?_
      refine zs_aload_n (pc := 3) C dX5_find_3 rfl ?_
      refine zs_getf (pc := 4) C dX5_find_4 w_X5_22 f_6_2 (by decide) ?_
      refine zs_iload_n (pc := 7) C dX5_find_7 rfl ?_
      refine zs_iald (r := 2037) (pc := 8) C dX5_find_8 a_37 (by decide) (by omega) rfl rfl (fun v8 e8 l8 u8 => ?_)
      try simp only [QC_2037 hZ] at e8
      try subst v8
      have hs := rs_2037 kd.toNat
      refine zs_icmp_ge (tgt := 34) (pc := 9) C dX5_find_9 (by decide) (fun h9 => ?_) (fun h9 => ?_)
      · skip
        refine zs_iconst (pc := 34) C dX5_find_34 (by decide) ?_
        exact zs_iret (pc := 35) C hr hlk dX5_find_35 ⟨rfl, ⟨by rw [← h2_1, fnd_e (by omega)], by omega⟩⟩
      · skip
        refine zs_aload_n (pc := 12) C dX5_find_12 rfl ?_
        refine zs_getf (pc := 13) C dX5_find_13 w_X5_18 f_6_1 (by decide) ?_
        refine zs_iload_n (pc := 16) C dX5_find_16 rfl ?_
        refine zs_iconst (pc := 17) C dX5_find_17 (by decide) ?_
        first | refine zs_imul (pc := 18) C dX5_find_18 (by omega) ?_ | refine zs_imulF (pc := 18) C dX5_find_18 (fun z18 hz181 hz182 => ?_)
        refine zs_iload_n (pc := 19) C dX5_find_19 rfl ?_
        first | refine zs_iadd (pc := 20) C dX5_find_20 (by omega) ?_ | refine zs_iaddF (pc := 20) C dX5_find_20 (fun z20 hz201 hz202 => ?_)
        refine zs_iald (r := 2036) (pc := 21) C dX5_find_21 a_36 (by decide) (by omega) rfl (r_2036 _) (fun v21 e21 l21 u21 => ?_)
        try simp only [QC_2036 hZ] at e21
        try subst v21
        refine zs_iload_n (pc := 22) C dX5_find_22 rfl ?_
        refine zs_icmp_ne (tgt := 28) (pc := 23) C dX5_find_23 (by decide) (fun h23 => ?_) (fun h23 => ?_)
        · skip
          first | refine zs_iinc (pc := 28) C dX5_find_28 rfl (by decide) (by omega) ?_ | refine zs_iincF (pc := 28) C dX5_find_28 rfl (by decide) (fun z28 hz281 hz282 => ?_)
          dsimp only [zset, zclr, znone]
          refine zs_goto (tgt := 2) (pc := 31) C dX5_find_31 (by decide) ?_
          exact zs_wk (ih2 _ (by omega) (by have q := h2_1; rw [fnd_s (by omega), if_neg (by omega)] at q; exact q) (by first | omega | (simp only [zuI_1, zuI_2, zuJ_1, zuJ_2, zuJ_3, zuP_1, zuP_2, zuP_3, zuC_1, zuC_2, reduceIte, Nat.reduceEqDiff, false_and, and_false, true_and, and_true, and_self, or_true, true_or, or_false, false_or]; omega))) (zwk_s rfl (zwk_s rfl (zwk_s rfl (zwk_s rfl zwk_0))))
        · skip
          refine zs_iload_n (pc := 26) C dX5_find_26 rfl ?_
          exact zs_iret (pc := 27) C hr hlk dX5_find_27 ⟨rfl, ⟨by rw [← h2_1, fnd_s (by omega), if_pos (by omega)], by omega⟩⟩
  exact zs_wk (L2 _ _ (by omega) (by unfold sFind; rw [Int.sub_zero]) (Nat.lt_succ_self _)) (zwk_s rfl (zwk_s rfl (zwk_s rfl (zwk_s rfl zwk_0))))

set_option maxHeartbeats 4000000 in
set_option maxRecDepth 100000 in
theorem c_X5_addF {l : Launch} {Γ : zΓ} {G : zH} {w t : Nat} {b : Nat → Int} {n : Int} {N : Nat} {A : aS} {kd k : Int} (hX : zXs Γ) (hZ : QC b n N Γ w t A G) (hk : 0 ≤ kd ∧ kd ≤ 3) : zMet l Γ yX5_add cX5_add 3 none 1 [zr 6 t, zi kd, zi k] G (zpv (fun G' => zsm [2036, 2037] G G' ∧ QC b n N Γ w t (sAdd kd k A) G')) := by
  have hI := QC_t hZ
  refine zMet_of RX5 hX (by decide) rfl (Nat.le_of_ble_eq_true rfl) ?_
  intro p e s m args below meth c C hr hlk
  show Z p l e (zrm 1) s m args below meth c Γ 3 0 0 (MQ below (zQc Γ (zpv (fun G' => zsm [2036, 2037] G G' ∧ QC b n N Γ w t (sAdd kd k A) G'))) args s 0 0 (zA Γ)) 0 [some (zr 6 t), some (zi kd), some (zi k)] [] G
  refine zs_loc 1 rfl (fun ha1 hb1 => ?_)
  refine zs_loc 2 rfl (fun ha2 hb2 => ?_)
  refine zs_aload_n (pc := 0) C dX5_add_0 rfl ?_
  refine zs_iload_n (pc := 1) C dX5_add_1 rfl ?_
  refine zVip1 (pc := 2) C dX5_add_2 v_X5_72 (c_X5_isFullF hX (by repeat (first | assumption | apply QCw_407 | apply QCw_408 | apply QCw_406 | apply QCw_2037 | apply QCw_2036 | apply QCw_2038 | apply QCw_2039 | apply QCw_2040 | apply QCw_2041 | apply QCw_2042 | apply QCw_2043 | apply QCw_609 | apply QCw_610 | apply QCw_611 | apply QCw_612 | apply QCw_2016 | apply QCw_2017 | apply QCw_2014 | apply QCw_2015 | apply QCw_206 | apply QCw_207 | apply QCw_410 | apply QCw_411 | apply QCw_412 | apply QCw_413 | apply QCw_2025 | refine QC_g (by decide) ?_ | refine QC_sm (by assumption) (by decide) (by decide) ?_)) (by omega)) (by decide) (by decide) ⟨Nat.zero_le _, Nat.zero_le _⟩ (Nat.le_of_ble_eq_true rfl) (fun x2 l2 u2 hp2 => ?_)
  have hq2 := hp2
  have hs := rs_2037 kd.toNat
  refine zs_if_ne (tgt := 34) (pc := 5) C dX5_add_5 (by decide) (fun h5 => ?_) (fun h5 => ?_)
  · skip
    exact zs_vret (pc := 34) C hr hlk dX5_add_34 ⟨by repeat (first | exact zsm_rf | assumption | refine zsm_C (by decide) ?_ | refine zsm_I (by decide) ?_ | refine zsm_J ?_ | refine zsm_c (by assumption) (by decide) ?_), by unfold sAdd; (repeat' split) <;> first | assumption | (exfalso; omega) | exact (by repeat (first | assumption | apply QCw_407 | apply QCw_408 | apply QCw_406 | apply QCw_2037 | apply QCw_2036 | apply QCw_2038 | apply QCw_2039 | apply QCw_2040 | apply QCw_2041 | apply QCw_2042 | apply QCw_2043 | apply QCw_609 | apply QCw_610 | apply QCw_611 | apply QCw_612 | apply QCw_2016 | apply QCw_2017 | apply QCw_2014 | apply QCw_2015 | apply QCw_206 | apply QCw_207 | apply QCw_410 | apply QCw_411 | apply QCw_412 | apply QCw_413 | apply QCw_2025 | refine QC_g (by decide) ?_ | refine QC_sm (by assumption) (by decide) (by decide) ?_))⟩
  · skip
    refine zs_aload_n (pc := 8) C dX5_add_8 rfl ?_
    refine zs_getf (pc := 9) C dX5_add_9 w_X5_18 f_6_1 (by decide) ?_
    refine zs_iload_n (pc := 12) C dX5_add_12 rfl ?_
    refine zs_iconst (pc := 13) C dX5_add_13 (by decide) ?_
    first | refine zs_imul (pc := 14) C dX5_add_14 (by omega) ?_ | refine zs_imulF (pc := 14) C dX5_add_14 (fun z14 hz141 hz142 => ?_)
    refine zs_aload_n (pc := 15) C dX5_add_15 rfl ?_
    refine zs_getf (pc := 16) C dX5_add_16 w_X5_22 f_6_2 (by decide) ?_
    refine zs_iload_n (pc := 19) C dX5_add_19 rfl ?_
    refine zs_iald (r := 2037) (pc := 20) C dX5_add_20 a_37 (by decide) (by omega) rfl rfl (fun v20 e20 l20 u20 => ?_)
    try simp only [QC_2037 hZ] at e20
    try subst v20
    first | refine zs_iadd (pc := 21) C dX5_add_21 (by omega) ?_ | refine zs_iaddF (pc := 21) C dX5_add_21 (fun z21 hz211 hz212 => ?_)
    refine zs_iload_n (pc := 22) C dX5_add_22 rfl ?_
    refine zs_iast (r := 2036) (pc := 23) C dX5_add_23 a_36 (by decide) (by omega) rfl (r_2036 _) (by omega) ?_
    refine zs_aload_n (pc := 24) C dX5_add_24 rfl ?_
    refine zs_getf (pc := 25) C dX5_add_25 w_X5_22 f_6_2 (by decide) ?_
    refine zs_iload_n (pc := 28) C dX5_add_28 rfl ?_
    refine zs_dup2 (pc := 29) C dX5_add_29 ?_
    refine zs_iald (r := 2037) (pc := 30) C dX5_add_30 a_37 (by decide) (by omega) rfl rfl (fun v30 e30 l30 u30 => ?_)
    try simp only [zuI_1, zuI_2, zuJ_1, zuJ_2, zuJ_3, zuP_1, zuP_2, zuP_3, zuC_1, zuC_2, reduceIte, Nat.reduceEqDiff, false_and, and_false, true_and, and_true, and_self, or_true, true_or, or_false, false_or] at e30
    try simp only [QC_2037 hZ] at e30
    try subst v30
    refine zs_iconst (pc := 31) C dX5_add_31 (by decide) ?_
    first | refine zs_iadd (pc := 32) C dX5_add_32 (by omega) ?_ | refine zs_iaddF (pc := 32) C dX5_add_32 (fun z32 hz321 hz322 => ?_)
    refine zs_iast (r := 2037) (pc := 33) C dX5_add_33 a_37 (by decide) (by omega) rfl rfl (by omega) ?_
    exact zs_vret (pc := 34) C hr hlk dX5_add_34 ⟨by repeat (first | exact zsm_rf | assumption | refine zsm_C (by decide) ?_ | refine zsm_I (by decide) ?_ | refine zsm_J ?_ | refine zsm_c (by assumption) (by decide) ?_), by unfold sAdd; (repeat' split) <;> first | assumption | (exfalso; omega) | exact (by repeat (first | assumption | apply QCw_407 | apply QCw_408 | apply QCw_406 | apply QCw_2037 | apply QCw_2036 | apply QCw_2038 | apply QCw_2039 | apply QCw_2040 | apply QCw_2041 | apply QCw_2042 | apply QCw_2043 | apply QCw_609 | apply QCw_610 | apply QCw_611 | apply QCw_612 | apply QCw_2016 | apply QCw_2017 | apply QCw_2014 | apply QCw_2015 | apply QCw_206 | apply QCw_207 | apply QCw_410 | apply QCw_411 | apply QCw_412 | apply QCw_413 | apply QCw_2025 | refine QC_g (by decide) ?_ | refine QC_sm (by assumption) (by decide) (by decide) ?_))⟩

set_option maxHeartbeats 4000000 in
set_option maxRecDepth 100000 in
theorem c_X3_readNewF {l : Launch} {Γ : zΓ} {G : zH} {w t : Nat} {b : Nat → Int} {n : Int} {N : Nat} {A : aS} {kd : Int} (hX : zXs Γ) (hZ : QC b n N Γ w t A G) (hk : 0 ≤ kd ∧ kd ≤ 3) : zMet l Γ yX3_readNew cX3_readNew 3 (some .int) 2 [zr 4 w, zi kd] G (zpi (fun x G' => zsm [402, 403, 404, 405, 406, 407, 408, 409, 410, 411, 412, 413, 2025, 206, 207, 2014, 2015, 2016, 2017, 2036, 2037, 2038, 2039, 2040, 2041, 2042, 2043, 609, 610, 611, 612] G G' ∧ (QC b n N Γ w t (sNew b n kd A) G' ∧ (x = sNewV b n kd A ∧ 0 ≤ x ∧ x ≤ 4 ∧ (kd = 0 → x ≤ 3) ∧ (kd = 3 → x ≤ 2))))) := by
  have hI := QC_t hZ
  refine zMet_of RX3 hX (by decide) rfl (Nat.le_of_ble_eq_true rfl) ?_
  intro p e s m args below meth c C hr hlk
  show Z p l e (zrm 2) s m args below meth c Γ 3 0 0 (MQ below (zQc Γ (zpi (fun x G' => zsm [402, 403, 404, 405, 406, 407, 408, 409, 410, 411, 412, 413, 2025, 206, 207, 2014, 2015, 2016, 2017, 2036, 2037, 2038, 2039, 2040, 2041, 2042, 2043, 609, 610, 611, 612] G G' ∧ (QC b n N Γ w t (sNew b n kd A) G' ∧ (x = sNewV b n kd A ∧ 0 ≤ x ∧ x ≤ 4 ∧ (kd = 0 → x ≤ 3) ∧ (kd = 3 → x ≤ 2)))))) args s 0 0 (zA Γ)) 0 [some (zr 4 w), some (zi kd), none] [] G
  refine zs_loc 1 rfl (fun ha1 hb1 => ?_)
  refine zs_aload_n (pc := 0) C dX3_readNew_0 rfl ?_
  refine zs_getd (r := 401) (pc := 1) C dX3_readNew_1 w_X3_21 f_4_1 (by decide) rfl (fun v1 e1 t1 => ?_)
  rw [hI] at e1
  subst v1
  refine zs_getf (pc := 4) C dX3_readNew_4 w_X3_155 f_6_2 (by decide) ?_
  refine zs_iload_n (pc := 7) C dX3_readNew_7 rfl ?_
  refine zs_iald (r := 2037) (pc := 8) C dX3_readNew_8 a_37 (by decide) (by omega) rfl rfl (fun v8 e8 l8 u8 => ?_)
  try simp only [QC_2037 hZ] at e8
  try subst v8
  have hs := rs_2037 kd.toNat
  refine zs_istore_n (pc := 9) C dX3_readNew_9 (by decide) ?_
  dsimp only [zset, zclr, znone]
  refine zs_aload_n (pc := 10) C dX3_readNew_10 rfl ?_
  refine zs_getd (r := 401) (pc := 11) C dX3_readNew_11 w_X3_21 f_4_1 (by decide) rfl (fun v11 e11 t11 => ?_)
  rw [hI] at e11
  subst v11
  refine zs_iload_n (pc := 14) C dX3_readNew_14 rfl ?_
  refine zVip1 (pc := 15) C dX3_readNew_15 v_X3_158 (c_X5_isFullF hX (by repeat (first | assumption | apply QCw_407 | apply QCw_408 | apply QCw_406 | apply QCw_2037 | apply QCw_2036 | apply QCw_2038 | apply QCw_2039 | apply QCw_2040 | apply QCw_2041 | apply QCw_2042 | apply QCw_2043 | apply QCw_609 | apply QCw_610 | apply QCw_611 | apply QCw_612 | apply QCw_2016 | apply QCw_2017 | apply QCw_2014 | apply QCw_2015 | apply QCw_206 | apply QCw_207 | apply QCw_410 | apply QCw_411 | apply QCw_412 | apply QCw_413 | apply QCw_2025 | refine QC_g (by decide) ?_ | refine QC_sm (by assumption) (by decide) (by decide) ?_)) (by omega)) (by decide) (by decide) ⟨Nat.zero_le _, Nat.zero_le _⟩ (Nat.le_of_ble_eq_true rfl) (fun x15 l15 u15 hp15 => ?_)
  have hq15 := hp15
  refine zs_if_eq (tgt := 28) (pc := 18) C dX3_readNew_18 (by decide) (fun h18 => ?_) (fun h18 => ?_)
  · skip
    refine zs_aload_n (pc := 28) C dX3_readNew_28 rfl ?_
    refine zVv0 (pc := 29) C dX3_readNew_29 v_X3_51 (c_X3_nextF hX (QN_of (by repeat (first | assumption | apply QCw_407 | apply QCw_408 | apply QCw_406 | apply QCw_2037 | apply QCw_2036 | apply QCw_2038 | apply QCw_2039 | apply QCw_2040 | apply QCw_2041 | apply QCw_2042 | apply QCw_2043 | apply QCw_609 | apply QCw_610 | apply QCw_611 | apply QCw_612 | apply QCw_2016 | apply QCw_2017 | apply QCw_2014 | apply QCw_2015 | apply QCw_206 | apply QCw_207 | apply QCw_410 | apply QCw_411 | apply QCw_412 | apply QCw_413 | apply QCw_2025 | refine QC_g (by decide) ?_ | refine QC_sm (by assumption) (by decide) (by decide) ?_)))) (by decide) (by decide) ⟨Nat.zero_le _, Nat.zero_le _⟩ (Nat.le_of_ble_eq_true rfl) (fun G29 hp29 => ?_)
    obtain ⟨hz29, hq29⟩ := hp29
    have hZ29 := hq29
    refine zs_aload_n (pc := 32) C dX3_readNew_32 rfl ?_
    refine zs_geti (r := 403) (pc := 33) C dX3_readNew_33 w_X3_54 f_4_3 rfl (r_403 0) (fun v33 e33 l33 u33 => ?_)
    try simp only [QC_403 hZ29, QC_403 hZ] at e33
    try subst v33
    refine zs_iconst (pc := 36) C dX3_readNew_36 (by decide) ?_
    refine zs_icmp_eq (tgt := 47) (pc := 37) C dX3_readNew_37 (by decide) (fun h37 => ?_) (fun h37 => ?_)
    · skip
      refine zs_aload_n (pc := 47) C dX3_readNew_47 rfl ?_
      refine zs_getd (r := 401) (pc := 48) C dX3_readNew_48 w_X3_21 f_4_1 (by decide) rfl (fun v48 e48 t48 => ?_)
      try simp only [hz29.2, zuI_1, zuI_2, zuJ_1, zuJ_2, zuJ_3, zuP_1, zuP_2, zuP_3, zuC_1, zuC_2, reduceIte, Nat.reduceEqDiff, false_and, and_false, true_and, and_true, and_self, or_true, true_or, or_false, false_or] at e48
      rw [hI] at e48
      subst v48
      refine zs_iload_n (pc := 51) C dX3_readNew_51 rfl ?_
      refine zs_aload_n (pc := 52) C dX3_readNew_52 rfl ?_
      refine zs_geti (r := 404) (pc := 53) C dX3_readNew_53 w_X3_68 f_4_4 rfl (r_404 0) (fun v53 e53 l53 u53 => ?_)
      have h53 : v53 = tV b n (sNext b n A) := by rw [e53]; exact (QC_404 hZ29).2 (by omega)
      subst h53
      refine zVip2 (pc := 56) C dX3_readNew_56 v_X3_133 (c_X5_findF hX (by repeat (first | assumption | apply QCw_407 | apply QCw_408 | apply QCw_406 | apply QCw_2037 | apply QCw_2036 | apply QCw_2038 | apply QCw_2039 | apply QCw_2040 | apply QCw_2041 | apply QCw_2042 | apply QCw_2043 | apply QCw_609 | apply QCw_610 | apply QCw_611 | apply QCw_612 | apply QCw_2016 | apply QCw_2017 | apply QCw_2014 | apply QCw_2015 | apply QCw_206 | apply QCw_207 | apply QCw_410 | apply QCw_411 | apply QCw_412 | apply QCw_413 | apply QCw_2025 | refine QC_g (by decide) ?_ | refine QC_sm (by assumption) (by decide) (by decide) ?_)) (by omega)) (by decide) (by decide) ⟨Nat.zero_le _, Nat.zero_le _⟩ (Nat.le_of_ble_eq_true rfl) (fun x56 l56 u56 hp56 => ?_)
      have hq56 := hp56
      have hX56 := hq56.1
      have hB56 := hq56.2
      subst hX56
      refine zs_iconst (pc := 59) C dX3_readNew_59 (by decide) ?_
      refine zs_icmp_eq (tgt := 70) (pc := 60) C dX3_readNew_60 (by decide) (fun h60 => ?_) (fun h60 => ?_)
      · skip
        refine zs_aload_n (pc := 70) C dX3_readNew_70 rfl ?_
        refine zs_getd (r := 401) (pc := 71) C dX3_readNew_71 w_X3_21 f_4_1 (by decide) rfl (fun v71 e71 t71 => ?_)
        try simp only [hz29.2, zuI_1, zuI_2, zuJ_1, zuJ_2, zuJ_3, zuP_1, zuP_2, zuP_3, zuC_1, zuC_2, reduceIte, Nat.reduceEqDiff, false_and, and_false, true_and, and_true, and_self, or_true, true_or, or_false, false_or] at e71
        rw [hI] at e71
        subst v71
        refine zs_iload_n (pc := 74) C dX3_readNew_74 rfl ?_
        refine zs_aload_n (pc := 75) C dX3_readNew_75 rfl ?_
        refine zs_geti (r := 404) (pc := 76) C dX3_readNew_76 w_X3_68 f_4_4 rfl (r_404 0) (fun v76 e76 l76 u76 => ?_)
        have h76 : v76 = tV b n (sNext b n A) := by rw [e76]; exact (QC_404 hZ29).2 (by omega)
        subst h76
        refine zVv2 (pc := 79) C dX3_readNew_79 v_X3_161 (c_X5_addF hX (by repeat (first | assumption | apply QCw_407 | apply QCw_408 | apply QCw_406 | apply QCw_2037 | apply QCw_2036 | apply QCw_2038 | apply QCw_2039 | apply QCw_2040 | apply QCw_2041 | apply QCw_2042 | apply QCw_2043 | apply QCw_609 | apply QCw_610 | apply QCw_611 | apply QCw_612 | apply QCw_2016 | apply QCw_2017 | apply QCw_2014 | apply QCw_2015 | apply QCw_206 | apply QCw_207 | apply QCw_410 | apply QCw_411 | apply QCw_412 | apply QCw_413 | apply QCw_2025 | refine QC_g (by decide) ?_ | refine QC_sm (by assumption) (by decide) (by decide) ?_)) (by omega)) (by decide) (by decide) ⟨Nat.zero_le _, Nat.zero_le _⟩ (Nat.le_of_ble_eq_true rfl) (fun G79 hp79 => ?_)
        obtain ⟨hz79, hq79⟩ := hp79
        have hZ79 := hq79
        refine zs_aload_n (pc := 82) C dX3_readNew_82 rfl ?_
        refine zVv0 (pc := 83) C dX3_readNew_83 v_X3_51 (c_X3_nextF hX (QN_of (by repeat (first | assumption | apply QCw_407 | apply QCw_408 | apply QCw_406 | apply QCw_2037 | apply QCw_2036 | apply QCw_2038 | apply QCw_2039 | apply QCw_2040 | apply QCw_2041 | apply QCw_2042 | apply QCw_2043 | apply QCw_609 | apply QCw_610 | apply QCw_611 | apply QCw_612 | apply QCw_2016 | apply QCw_2017 | apply QCw_2014 | apply QCw_2015 | apply QCw_206 | apply QCw_207 | apply QCw_410 | apply QCw_411 | apply QCw_412 | apply QCw_413 | apply QCw_2025 | refine QC_g (by decide) ?_ | refine QC_sm (by assumption) (by decide) (by decide) ?_)))) (by decide) (by decide) ⟨Nat.zero_le _, Nat.zero_le _⟩ (Nat.le_of_ble_eq_true rfl) (fun G83 hp83 => ?_)
        obtain ⟨hz83, hq83⟩ := hp83
        have hZ83 := hq83
        refine zs_iload_n (pc := 86) C dX3_readNew_86 rfl ?_
        exact zs_iret (pc := 87) C hr hlk dX3_readNew_87 ⟨by repeat (first | exact zsm_rf | assumption | refine zsm_C (by decide) ?_ | refine zsm_I (by decide) ?_ | refine zsm_J ?_ | refine zsm_c (by assumption) (by decide) ?_), ⟨(by unfold sNew; (repeat' split) <;> first | assumption | (exfalso; omega) | exact (by repeat (first | assumption | apply QCw_407 | apply QCw_408 | apply QCw_406 | apply QCw_2037 | apply QCw_2036 | apply QCw_2038 | apply QCw_2039 | apply QCw_2040 | apply QCw_2041 | apply QCw_2042 | apply QCw_2043 | apply QCw_609 | apply QCw_610 | apply QCw_611 | apply QCw_612 | apply QCw_2016 | apply QCw_2017 | apply QCw_2014 | apply QCw_2015 | apply QCw_206 | apply QCw_207 | apply QCw_410 | apply QCw_411 | apply QCw_412 | apply QCw_413 | apply QCw_2025 | refine QC_g (by decide) ?_ | refine QC_sm (by assumption) (by decide) (by decide) ?_))), ⟨(by unfold sNewV; (repeat' split) <;> first | rfl | omega), by omega⟩⟩⟩
      · skip
        refine zs_aload_n (pc := 63) C dX3_readNew_63 rfl ?_
        refine zs_iconst (pc := 64) C dX3_readNew_64 (by decide) ?_
        refine zVv1 (pc := 65) C dX3_readNew_65 v_X3_114 (c_X3_failF hX (by repeat (first | assumption | apply QCw_407 | apply QCw_408 | apply QCw_406 | apply QCw_2037 | apply QCw_2036 | apply QCw_2038 | apply QCw_2039 | apply QCw_2040 | apply QCw_2041 | apply QCw_2042 | apply QCw_2043 | apply QCw_609 | apply QCw_610 | apply QCw_611 | apply QCw_612 | apply QCw_2016 | apply QCw_2017 | apply QCw_2014 | apply QCw_2015 | apply QCw_206 | apply QCw_207 | apply QCw_410 | apply QCw_411 | apply QCw_412 | apply QCw_413 | apply QCw_2025 | refine QC_g (by decide) ?_ | refine QC_sm (by assumption) (by decide) (by decide) ?_))) (by decide) (by decide) ⟨Nat.zero_le _, Nat.zero_le _⟩ (Nat.le_of_ble_eq_true rfl) (fun G65 hp65 => ?_)
        obtain ⟨hz65, hq65⟩ := hp65
        have hZ65 := hq65
        refine zs_iconst (pc := 68) C dX3_readNew_68 (by decide) ?_
        exact zs_iret (pc := 69) C hr hlk dX3_readNew_69 ⟨by repeat (first | exact zsm_rf | assumption | refine zsm_C (by decide) ?_ | refine zsm_I (by decide) ?_ | refine zsm_J ?_ | refine zsm_c (by assumption) (by decide) ?_), ⟨(by unfold sNew; (repeat' split) <;> first | assumption | (exfalso; omega) | exact (by repeat (first | assumption | apply QCw_407 | apply QCw_408 | apply QCw_406 | apply QCw_2037 | apply QCw_2036 | apply QCw_2038 | apply QCw_2039 | apply QCw_2040 | apply QCw_2041 | apply QCw_2042 | apply QCw_2043 | apply QCw_609 | apply QCw_610 | apply QCw_611 | apply QCw_612 | apply QCw_2016 | apply QCw_2017 | apply QCw_2014 | apply QCw_2015 | apply QCw_206 | apply QCw_207 | apply QCw_410 | apply QCw_411 | apply QCw_412 | apply QCw_413 | apply QCw_2025 | refine QC_g (by decide) ?_ | refine QC_sm (by assumption) (by decide) (by decide) ?_))), ⟨(by unfold sNewV; (repeat' split) <;> first | rfl | omega), by omega⟩⟩⟩
    · skip
      refine zs_aload_n (pc := 40) C dX3_readNew_40 rfl ?_
      refine zs_iconst (pc := 41) C dX3_readNew_41 (by decide) ?_
      refine zVv1 (pc := 42) C dX3_readNew_42 v_X3_114 (c_X3_failF hX (by repeat (first | assumption | apply QCw_407 | apply QCw_408 | apply QCw_406 | apply QCw_2037 | apply QCw_2036 | apply QCw_2038 | apply QCw_2039 | apply QCw_2040 | apply QCw_2041 | apply QCw_2042 | apply QCw_2043 | apply QCw_609 | apply QCw_610 | apply QCw_611 | apply QCw_612 | apply QCw_2016 | apply QCw_2017 | apply QCw_2014 | apply QCw_2015 | apply QCw_206 | apply QCw_207 | apply QCw_410 | apply QCw_411 | apply QCw_412 | apply QCw_413 | apply QCw_2025 | refine QC_g (by decide) ?_ | refine QC_sm (by assumption) (by decide) (by decide) ?_))) (by decide) (by decide) ⟨Nat.zero_le _, Nat.zero_le _⟩ (Nat.le_of_ble_eq_true rfl) (fun G42 hp42 => ?_)
      obtain ⟨hz42, hq42⟩ := hp42
      have hZ42 := hq42
      refine zs_iconst (pc := 45) C dX3_readNew_45 (by decide) ?_
      exact zs_iret (pc := 46) C hr hlk dX3_readNew_46 ⟨by repeat (first | exact zsm_rf | assumption | refine zsm_C (by decide) ?_ | refine zsm_I (by decide) ?_ | refine zsm_J ?_ | refine zsm_c (by assumption) (by decide) ?_), ⟨(by unfold sNew; (repeat' split) <;> first | assumption | (exfalso; omega) | exact (by repeat (first | assumption | apply QCw_407 | apply QCw_408 | apply QCw_406 | apply QCw_2037 | apply QCw_2036 | apply QCw_2038 | apply QCw_2039 | apply QCw_2040 | apply QCw_2041 | apply QCw_2042 | apply QCw_2043 | apply QCw_609 | apply QCw_610 | apply QCw_611 | apply QCw_612 | apply QCw_2016 | apply QCw_2017 | apply QCw_2014 | apply QCw_2015 | apply QCw_206 | apply QCw_207 | apply QCw_410 | apply QCw_411 | apply QCw_412 | apply QCw_413 | apply QCw_2025 | refine QC_g (by decide) ?_ | refine QC_sm (by assumption) (by decide) (by decide) ?_))), ⟨(by unfold sNewV; (repeat' split) <;> first | rfl | omega), by omega⟩⟩⟩
  · skip
    refine zs_aload_n (pc := 21) C dX3_readNew_21 rfl ?_
    refine zs_iconst (pc := 22) C dX3_readNew_22 (by decide) ?_
    refine zVv1 (pc := 23) C dX3_readNew_23 v_X3_114 (c_X3_failF hX (by repeat (first | assumption | apply QCw_407 | apply QCw_408 | apply QCw_406 | apply QCw_2037 | apply QCw_2036 | apply QCw_2038 | apply QCw_2039 | apply QCw_2040 | apply QCw_2041 | apply QCw_2042 | apply QCw_2043 | apply QCw_609 | apply QCw_610 | apply QCw_611 | apply QCw_612 | apply QCw_2016 | apply QCw_2017 | apply QCw_2014 | apply QCw_2015 | apply QCw_206 | apply QCw_207 | apply QCw_410 | apply QCw_411 | apply QCw_412 | apply QCw_413 | apply QCw_2025 | refine QC_g (by decide) ?_ | refine QC_sm (by assumption) (by decide) (by decide) ?_))) (by decide) (by decide) ⟨Nat.zero_le _, Nat.zero_le _⟩ (Nat.le_of_ble_eq_true rfl) (fun G23 hp23 => ?_)
    obtain ⟨hz23, hq23⟩ := hp23
    have hZ23 := hq23
    refine zs_iconst (pc := 26) C dX3_readNew_26 (by decide) ?_
    exact zs_iret (pc := 27) C hr hlk dX3_readNew_27 ⟨by repeat (first | exact zsm_rf | assumption | refine zsm_C (by decide) ?_ | refine zsm_I (by decide) ?_ | refine zsm_J ?_ | refine zsm_c (by assumption) (by decide) ?_), ⟨(by unfold sNew; (repeat' split) <;> first | assumption | (exfalso; omega) | exact (by repeat (first | assumption | apply QCw_407 | apply QCw_408 | apply QCw_406 | apply QCw_2037 | apply QCw_2036 | apply QCw_2038 | apply QCw_2039 | apply QCw_2040 | apply QCw_2041 | apply QCw_2042 | apply QCw_2043 | apply QCw_609 | apply QCw_610 | apply QCw_611 | apply QCw_612 | apply QCw_2016 | apply QCw_2017 | apply QCw_2014 | apply QCw_2015 | apply QCw_206 | apply QCw_207 | apply QCw_410 | apply QCw_411 | apply QCw_412 | apply QCw_413 | apply QCw_2025 | refine QC_g (by decide) ?_ | refine QC_sm (by assumption) (by decide) (by decide) ?_))), ⟨(by unfold sNewV; (repeat' split) <;> first | rfl | omega), by omega⟩⟩⟩

set_option maxHeartbeats 4000000 in
set_option maxRecDepth 100000 in
theorem c_X1_isToldF {l : Launch} {Γ : zΓ} {G : zH} {w t : Nat} {b : Nat → Int} {n : Int} {N : Nat} {A : aS} {k : Int} (hX : zXs Γ) (hZ : QC b n N Γ w t A G)  : zMet l Γ yX1_isTold cX1_isTold 2 (some .boolean) 0 [zr 2 (Γ.2.1 t 0), zi k] G (zpi (fun x G' => G' = G ∧ ((x = 0 ∨ x = 1) ∧ (x = 1 ↔ 0 ≤ k ∧ k < 7 ∧ A 16 k.toNat < A 17 k.toNat)))) := by
  have hI := QC_t hZ
  refine zMet_of RX1 hX (by decide) rfl (Nat.le_of_ble_eq_true rfl) ?_
  intro p e s m args below meth c C hr hlk
  show Z p l e (zrm 0) s m args below meth c Γ 2 0 0 (MQ below (zQc Γ (zpi (fun x G' => G' = G ∧ ((x = 0 ∨ x = 1) ∧ (x = 1 ↔ 0 ≤ k ∧ k < 7 ∧ A 16 k.toNat < A 17 k.toNat))))) args s 0 0 (zA Γ)) 0 [some (zr 2 (Γ.2.1 t 0)), some (zi k)] [] G
  refine zs_loc 1 rfl (fun ha1 hb1 => ?_)
  refine zs_iload_n (pc := 0) C dX1_isTold_0 rfl ?_
  refine zs_if_lt (tgt := 29) (pc := 1) C dX1_isTold_1 (by decide) (fun h1 => ?_) (fun h1 => ?_)
  · skip
    refine zs_iconst (pc := 29) C dX1_isTold_29 (by decide) ?_
    exact zs_zret (pc := 30) C hr hlk dX1_isTold_30 (by omega) ⟨rfl, by first | omega | (simp only [zuI_1, zuI_2, zuJ_1, zuJ_2, zuJ_3, zuP_1, zuP_2, zuP_3, zuC_1, zuC_2, reduceIte, Nat.reduceEqDiff, false_and, and_false, true_and, and_true, and_self, or_true, true_or, or_false, false_or]; omega)⟩
  · skip
    refine zs_iload_n (pc := 4) C dX1_isTold_4 rfl ?_
    refine zs_bipush (pc := 5) C dX1_isTold_5 (by decide) (by decide) ?_
    refine zs_icmp_ge (tgt := 29) (pc := 7) C dX1_isTold_7 (by decide) (fun h7 => ?_) (fun h7 => ?_)
    · skip
      refine zs_iconst (pc := 29) C dX1_isTold_29 (by decide) ?_
      exact zs_zret (pc := 30) C hr hlk dX1_isTold_30 (by omega) ⟨rfl, by first | omega | (simp only [zuI_1, zuI_2, zuJ_1, zuJ_2, zuJ_3, zuP_1, zuP_2, zuP_3, zuC_1, zuC_2, reduceIte, Nat.reduceEqDiff, false_and, and_false, true_and, and_true, and_self, or_true, true_or, or_false, false_or]; omega)⟩
    · skip
      refine zs_aload_n (pc := 10) C dX1_isTold_10 rfl ?_
      refine zs_getf (pc := 11) C dX1_isTold_11 w_X1_21 f_2_3 (by decide) ?_
      refine zs_iload_n (pc := 14) C dX1_isTold_14 rfl ?_
      refine zs_iald (r := 2017) (pc := 15) C dX1_isTold_15 a_17 (by decide) (by omega) rfl (r_2017 _) (fun v15 e15 l15 u15 => ?_)
      try simp only [QC_2017 hZ] at e15
      try subst v15
      refine zs_aload_n (pc := 16) C dX1_isTold_16 rfl ?_
      refine zs_getf (pc := 17) C dX1_isTold_17 w_X1_18 f_2_2 (by decide) ?_
      refine zs_iload_n (pc := 20) C dX1_isTold_20 rfl ?_
      refine zs_iald (r := 2016) (pc := 21) C dX1_isTold_21 a_16 (by decide) (by omega) rfl (r_2016 _) (fun v21 e21 l21 u21 => ?_)
      try simp only [QC_2016 hZ] at e21
      try subst v21
      refine zs_icmp_le (tgt := 29) (pc := 22) C dX1_isTold_22 (by decide) (fun h22 => ?_) (fun h22 => ?_)
      · skip
        refine zs_iconst (pc := 29) C dX1_isTold_29 (by decide) ?_
        exact zs_zret (pc := 30) C hr hlk dX1_isTold_30 (by omega) ⟨rfl, by first | omega | (simp only [zuI_1, zuI_2, zuJ_1, zuJ_2, zuJ_3, zuP_1, zuP_2, zuP_3, zuC_1, zuC_2, reduceIte, Nat.reduceEqDiff, false_and, and_false, true_and, and_true, and_self, or_true, true_or, or_false, false_or]; omega)⟩
      · skip
        refine zs_iconst (pc := 25) C dX1_isTold_25 (by decide) ?_
        refine zs_goto (tgt := 30) (pc := 26) C dX1_isTold_26 (by decide) ?_
        exact zs_zret (pc := 30) C hr hlk dX1_isTold_30 (by omega) ⟨rfl, by first | omega | (simp only [zuI_1, zuI_2, zuJ_1, zuJ_2, zuJ_3, zuP_1, zuP_2, zuP_3, zuC_1, zuC_2, reduceIte, Nat.reduceEqDiff, false_and, and_false, true_and, and_true, and_self, or_true, true_or, or_false, false_or]; omega)⟩

set_option maxHeartbeats 4000000 in
set_option maxRecDepth 100000 in
theorem c_X3_readKindF {l : Launch} {Γ : zΓ} {G : zH} {w t : Nat} {b : Nat → Int} {n : Int} {N : Nat} {A : aS}  (hX : zXs Γ) (hZ : QC b n N Γ w t A G)  : zMet l Γ yX3_readKind cX3_readKind 2 (some .int) 1 [zr 4 w] G (zpi (fun x G' => zsm [402, 403, 404, 405, 406, 407, 408, 409, 410, 411, 412, 413, 2025, 206, 207, 2014, 2015, 2016, 2017, 2036, 2037, 2038, 2039, 2040, 2041, 2042, 2043, 609, 610, 611, 612] G G' ∧ (QC b n N Γ w t (sKind b n A) G' ∧ (x = sKindV b n A ∧ 0 ≤ x ∧ x ≤ 3)))) := by
  have hI := QC_t hZ
  refine zMet_of RX3 hX (by decide) rfl (Nat.le_of_ble_eq_true rfl) ?_
  intro p e s m args below meth c C hr hlk
  show Z p l e (zrm 1) s m args below meth c Γ 2 0 0 (MQ below (zQc Γ (zpi (fun x G' => zsm [402, 403, 404, 405, 406, 407, 408, 409, 410, 411, 412, 413, 2025, 206, 207, 2014, 2015, 2016, 2017, 2036, 2037, 2038, 2039, 2040, 2041, 2042, 2043, 609, 610, 611, 612] G G' ∧ (QC b n N Γ w t (sKind b n A) G' ∧ (x = sKindV b n A ∧ 0 ≤ x ∧ x ≤ 3))))) args s 0 0 (zA Γ)) 0 [some (zr 4 w), none] [] G
  refine zs_aload_n (pc := 0) C dX3_readKind_0 rfl ?_
  refine zVv0 (pc := 1) C dX3_readKind_1 v_X3_51 (c_X3_nextF hX (QN_of (by repeat (first | assumption | apply QCw_407 | apply QCw_408 | apply QCw_406 | apply QCw_2037 | apply QCw_2036 | apply QCw_2038 | apply QCw_2039 | apply QCw_2040 | apply QCw_2041 | apply QCw_2042 | apply QCw_2043 | apply QCw_609 | apply QCw_610 | apply QCw_611 | apply QCw_612 | apply QCw_2016 | apply QCw_2017 | apply QCw_2014 | apply QCw_2015 | apply QCw_206 | apply QCw_207 | apply QCw_410 | apply QCw_411 | apply QCw_412 | apply QCw_413 | apply QCw_2025 | refine QC_g (by decide) ?_ | refine QC_sm (by assumption) (by decide) (by decide) ?_)))) (by decide) (by decide) ⟨Nat.zero_le _, Nat.zero_le _⟩ (Nat.le_of_ble_eq_true rfl) (fun G1 hp1 => ?_)
  obtain ⟨hz1, hq1⟩ := hp1
  have hZ1 := hq1
  refine zs_aload_n (pc := 4) C dX3_readKind_4 rfl ?_
  refine zs_geti (r := 405) (pc := 5) C dX3_readKind_5 w_X3_70 f_4_5 rfl (r_405 0) (fun v5 e5 l5 u5 => ?_)
  try simp only [QC_405 hZ1, QC_405 hZ] at e5
  try subst v5
  refine zs_bipush (pc := 8) C dX3_readKind_8 (by decide) (by decide) ?_
  have htw := tW_in (b := b) (n := n) (A := sNext b n A)
  first | refine zs_isub (pc := 10) C dX3_readKind_10 (by omega) ?_ | refine zs_isubF (pc := 10) C dX3_readKind_10 (fun z10 hz101 hz102 => ?_)
  refine zs_istore_n (pc := 11) C dX3_readKind_11 (by decide) ?_
  dsimp only [zset, zclr, znone]
  refine zs_aload_n (pc := 12) C dX3_readKind_12 rfl ?_
  refine zs_geti (r := 405) (pc := 13) C dX3_readKind_13 w_X3_70 f_4_5 rfl (r_405 0) (fun v13 e13 l13 u13 => ?_)
  try simp only [QC_405 hZ1, QC_405 hZ] at e13
  try subst v13
  refine zs_bipush (pc := 16) C dX3_readKind_16 (by decide) (by decide) ?_
  refine zs_icmp_lt (tgt := 30) (pc := 18) C dX3_readKind_18 (by decide) (fun h18 => ?_) (fun h18 => ?_)
  · skip
    refine zs_aload_n (pc := 30) C dX3_readKind_30 rfl ?_
    refine zs_iconst (pc := 31) C dX3_readKind_31 (by decide) ?_
    refine zVv1 (pc := 32) C dX3_readKind_32 v_X3_114 (c_X3_failF hX (by repeat (first | assumption | apply QCw_407 | apply QCw_408 | apply QCw_406 | apply QCw_2037 | apply QCw_2036 | apply QCw_2038 | apply QCw_2039 | apply QCw_2040 | apply QCw_2041 | apply QCw_2042 | apply QCw_2043 | apply QCw_609 | apply QCw_610 | apply QCw_611 | apply QCw_612 | apply QCw_2016 | apply QCw_2017 | apply QCw_2014 | apply QCw_2015 | apply QCw_206 | apply QCw_207 | apply QCw_410 | apply QCw_411 | apply QCw_412 | apply QCw_413 | apply QCw_2025 | refine QC_g (by decide) ?_ | refine QC_sm (by assumption) (by decide) (by decide) ?_))) (by decide) (by decide) ⟨Nat.zero_le _, Nat.zero_le _⟩ (Nat.le_of_ble_eq_true rfl) (fun G32 hp32 => ?_)
    obtain ⟨hz32, hq32⟩ := hp32
    have hZ32 := hq32
    refine zs_iconst (pc := 35) C dX3_readKind_35 (by decide) ?_
    exact zs_iret (pc := 36) C hr hlk dX3_readKind_36 ⟨by repeat (first | exact zsm_rf | assumption | refine zsm_C (by decide) ?_ | refine zsm_I (by decide) ?_ | refine zsm_J ?_ | refine zsm_c (by assumption) (by decide) ?_), ⟨(by unfold sKind; (repeat' split) <;> first | assumption | (exfalso; omega) | exact (by repeat (first | assumption | apply QCw_407 | apply QCw_408 | apply QCw_406 | apply QCw_2037 | apply QCw_2036 | apply QCw_2038 | apply QCw_2039 | apply QCw_2040 | apply QCw_2041 | apply QCw_2042 | apply QCw_2043 | apply QCw_609 | apply QCw_610 | apply QCw_611 | apply QCw_612 | apply QCw_2016 | apply QCw_2017 | apply QCw_2014 | apply QCw_2015 | apply QCw_206 | apply QCw_207 | apply QCw_410 | apply QCw_411 | apply QCw_412 | apply QCw_413 | apply QCw_2025 | refine QC_g (by decide) ?_ | refine QC_sm (by assumption) (by decide) (by decide) ?_))), ⟨(by unfold sKindV; (repeat' split) <;> first | rfl | omega), by omega, by omega⟩⟩⟩
  · skip
    refine zs_aload_n (pc := 21) C dX3_readKind_21 rfl ?_
    refine zs_geti (r := 405) (pc := 22) C dX3_readKind_22 w_X3_70 f_4_5 rfl (r_405 0) (fun v22 e22 l22 u22 => ?_)
    try simp only [QC_405 hZ1, QC_405 hZ] at e22
    try subst v22
    refine zs_bipush (pc := 25) C dX3_readKind_25 (by decide) (by decide) ?_
    refine zs_icmp_le (tgt := 37) (pc := 27) C dX3_readKind_27 (by decide) (fun h27 => ?_) (fun h27 => ?_)
    · skip
      refine zs_aload_n (pc := 37) C dX3_readKind_37 rfl ?_
      refine zs_getd (r := 401) (pc := 38) C dX3_readKind_38 w_X3_21 f_4_1 (by decide) rfl (fun v38 e38 t38 => ?_)
      try simp only [hz1.2, zuI_1, zuI_2, zuJ_1, zuJ_2, zuJ_3, zuP_1, zuP_2, zuP_3, zuC_1, zuC_2, reduceIte, Nat.reduceEqDiff, false_and, and_false, true_and, and_true, and_self, or_true, true_or, or_false, false_or] at e38
      rw [hI] at e38
      subst v38
      refine zs_getf (pc := 41) C dX3_readKind_41 w_X3_148 f_6_0 (by decide) ?_
      refine zs_iload_n (pc := 44) C dX3_readKind_44 rfl ?_
      refine zVip1 (pc := 45) C dX3_readKind_45 v_X3_152 (c_X1_isToldF hX (by repeat (first | assumption | apply QCw_407 | apply QCw_408 | apply QCw_406 | apply QCw_2037 | apply QCw_2036 | apply QCw_2038 | apply QCw_2039 | apply QCw_2040 | apply QCw_2041 | apply QCw_2042 | apply QCw_2043 | apply QCw_609 | apply QCw_610 | apply QCw_611 | apply QCw_612 | apply QCw_2016 | apply QCw_2017 | apply QCw_2014 | apply QCw_2015 | apply QCw_206 | apply QCw_207 | apply QCw_410 | apply QCw_411 | apply QCw_412 | apply QCw_413 | apply QCw_2025 | refine QC_g (by decide) ?_ | refine QC_sm (by assumption) (by decide) (by decide) ?_))) (by decide) (by decide) ⟨Nat.zero_le _, Nat.zero_le _⟩ (Nat.le_of_ble_eq_true rfl) (fun x45 l45 u45 hp45 => ?_)
      have hq45 := hp45
      refine zs_if_eq (tgt := 58) (pc := 48) C dX3_readKind_48 (by decide) (fun h48 => ?_) (fun h48 => ?_)
      · skip
        refine zs_aload_n (pc := 58) C dX3_readKind_58 rfl ?_
        refine zVv0 (pc := 59) C dX3_readKind_59 v_X3_51 (c_X3_nextF hX (QN_of (by repeat (first | assumption | apply QCw_407 | apply QCw_408 | apply QCw_406 | apply QCw_2037 | apply QCw_2036 | apply QCw_2038 | apply QCw_2039 | apply QCw_2040 | apply QCw_2041 | apply QCw_2042 | apply QCw_2043 | apply QCw_609 | apply QCw_610 | apply QCw_611 | apply QCw_612 | apply QCw_2016 | apply QCw_2017 | apply QCw_2014 | apply QCw_2015 | apply QCw_206 | apply QCw_207 | apply QCw_410 | apply QCw_411 | apply QCw_412 | apply QCw_413 | apply QCw_2025 | refine QC_g (by decide) ?_ | refine QC_sm (by assumption) (by decide) (by decide) ?_)))) (by decide) (by decide) ⟨Nat.zero_le _, Nat.zero_le _⟩ (Nat.le_of_ble_eq_true rfl) (fun G59 hp59 => ?_)
        obtain ⟨hz59, hq59⟩ := hp59
        have hZ59 := hq59
        refine zs_iload_n (pc := 62) C dX3_readKind_62 rfl ?_
        exact zs_iret (pc := 63) C hr hlk dX3_readKind_63 ⟨by repeat (first | exact zsm_rf | assumption | refine zsm_C (by decide) ?_ | refine zsm_I (by decide) ?_ | refine zsm_J ?_ | refine zsm_c (by assumption) (by decide) ?_), ⟨(by unfold sKind; (repeat' split) <;> first | assumption | (exfalso; omega) | exact (by repeat (first | assumption | apply QCw_407 | apply QCw_408 | apply QCw_406 | apply QCw_2037 | apply QCw_2036 | apply QCw_2038 | apply QCw_2039 | apply QCw_2040 | apply QCw_2041 | apply QCw_2042 | apply QCw_2043 | apply QCw_609 | apply QCw_610 | apply QCw_611 | apply QCw_612 | apply QCw_2016 | apply QCw_2017 | apply QCw_2014 | apply QCw_2015 | apply QCw_206 | apply QCw_207 | apply QCw_410 | apply QCw_411 | apply QCw_412 | apply QCw_413 | apply QCw_2025 | refine QC_g (by decide) ?_ | refine QC_sm (by assumption) (by decide) (by decide) ?_))), ⟨(by unfold sKindV; (repeat' split) <;> first | rfl | omega), by omega, by omega⟩⟩⟩
      · skip
        refine zs_aload_n (pc := 51) C dX3_readKind_51 rfl ?_
        refine zs_iconst (pc := 52) C dX3_readKind_52 (by decide) ?_
        refine zVv1 (pc := 53) C dX3_readKind_53 v_X3_114 (c_X3_failF hX (by repeat (first | assumption | apply QCw_407 | apply QCw_408 | apply QCw_406 | apply QCw_2037 | apply QCw_2036 | apply QCw_2038 | apply QCw_2039 | apply QCw_2040 | apply QCw_2041 | apply QCw_2042 | apply QCw_2043 | apply QCw_609 | apply QCw_610 | apply QCw_611 | apply QCw_612 | apply QCw_2016 | apply QCw_2017 | apply QCw_2014 | apply QCw_2015 | apply QCw_206 | apply QCw_207 | apply QCw_410 | apply QCw_411 | apply QCw_412 | apply QCw_413 | apply QCw_2025 | refine QC_g (by decide) ?_ | refine QC_sm (by assumption) (by decide) (by decide) ?_))) (by decide) (by decide) ⟨Nat.zero_le _, Nat.zero_le _⟩ (Nat.le_of_ble_eq_true rfl) (fun G53 hp53 => ?_)
        obtain ⟨hz53, hq53⟩ := hp53
        have hZ53 := hq53
        refine zs_iconst (pc := 56) C dX3_readKind_56 (by decide) ?_
        exact zs_iret (pc := 57) C hr hlk dX3_readKind_57 ⟨by repeat (first | exact zsm_rf | assumption | refine zsm_C (by decide) ?_ | refine zsm_I (by decide) ?_ | refine zsm_J ?_ | refine zsm_c (by assumption) (by decide) ?_), ⟨(by unfold sKind; (repeat' split) <;> first | assumption | (exfalso; omega) | exact (by repeat (first | assumption | apply QCw_407 | apply QCw_408 | apply QCw_406 | apply QCw_2037 | apply QCw_2036 | apply QCw_2038 | apply QCw_2039 | apply QCw_2040 | apply QCw_2041 | apply QCw_2042 | apply QCw_2043 | apply QCw_609 | apply QCw_610 | apply QCw_611 | apply QCw_612 | apply QCw_2016 | apply QCw_2017 | apply QCw_2014 | apply QCw_2015 | apply QCw_206 | apply QCw_207 | apply QCw_410 | apply QCw_411 | apply QCw_412 | apply QCw_413 | apply QCw_2025 | refine QC_g (by decide) ?_ | refine QC_sm (by assumption) (by decide) (by decide) ?_))), ⟨(by unfold sKindV; (repeat' split) <;> first | rfl | omega), by omega, by omega⟩⟩⟩
    · skip
      refine zs_aload_n (pc := 30) C dX3_readKind_30 rfl ?_
      refine zs_iconst (pc := 31) C dX3_readKind_31 (by decide) ?_
      refine zVv1 (pc := 32) C dX3_readKind_32 v_X3_114 (c_X3_failF hX (by repeat (first | assumption | apply QCw_407 | apply QCw_408 | apply QCw_406 | apply QCw_2037 | apply QCw_2036 | apply QCw_2038 | apply QCw_2039 | apply QCw_2040 | apply QCw_2041 | apply QCw_2042 | apply QCw_2043 | apply QCw_609 | apply QCw_610 | apply QCw_611 | apply QCw_612 | apply QCw_2016 | apply QCw_2017 | apply QCw_2014 | apply QCw_2015 | apply QCw_206 | apply QCw_207 | apply QCw_410 | apply QCw_411 | apply QCw_412 | apply QCw_413 | apply QCw_2025 | refine QC_g (by decide) ?_ | refine QC_sm (by assumption) (by decide) (by decide) ?_))) (by decide) (by decide) ⟨Nat.zero_le _, Nat.zero_le _⟩ (Nat.le_of_ble_eq_true rfl) (fun G32 hp32 => ?_)
      obtain ⟨hz32, hq32⟩ := hp32
      have hZ32 := hq32
      refine zs_iconst (pc := 35) C dX3_readKind_35 (by decide) ?_
      exact zs_iret (pc := 36) C hr hlk dX3_readKind_36 ⟨by repeat (first | exact zsm_rf | assumption | refine zsm_C (by decide) ?_ | refine zsm_I (by decide) ?_ | refine zsm_J ?_ | refine zsm_c (by assumption) (by decide) ?_), ⟨(by unfold sKind; (repeat' split) <;> first | assumption | (exfalso; omega) | exact (by repeat (first | assumption | apply QCw_407 | apply QCw_408 | apply QCw_406 | apply QCw_2037 | apply QCw_2036 | apply QCw_2038 | apply QCw_2039 | apply QCw_2040 | apply QCw_2041 | apply QCw_2042 | apply QCw_2043 | apply QCw_609 | apply QCw_610 | apply QCw_611 | apply QCw_612 | apply QCw_2016 | apply QCw_2017 | apply QCw_2014 | apply QCw_2015 | apply QCw_206 | apply QCw_207 | apply QCw_410 | apply QCw_411 | apply QCw_412 | apply QCw_413 | apply QCw_2025 | refine QC_g (by decide) ?_ | refine QC_sm (by assumption) (by decide) (by decide) ?_))), ⟨(by unfold sKindV; (repeat' split) <;> first | rfl | omega), by omega, by omega⟩⟩⟩

set_option maxHeartbeats 4000000 in
set_option maxRecDepth 100000 in
theorem c_X3_readOnceF {l : Launch} {Γ : zΓ} {G : zH} {w t : Nat} {b : Nat → Int} {n : Int} {N : Nat} {A : aS} {lo hi : Int} (hX : zXs Γ) (hZ : QC b n N Γ w t A G) (hab : 0 ≤ lo ∧ lo ≤ hi ∧ hi ≤ 99999) : zMet l Γ yX3_readOnce cX3_readOnce 4 (some .int) 2 [zr 4 w, zi lo, zi hi] G (zpi (fun x G' => zsm [402, 403, 404, 405, 406, 407, 408, 409, 410, 411, 412, 413, 2025, 206, 207, 2014, 2015, 2016, 2017, 2036, 2037, 2038, 2039, 2040, 2041, 2042, 2043, 609, 610, 611, 612] G G' ∧ (QC b n N Γ w t (sOnce b n lo hi A) G' ∧ (x = sOnceV b n lo hi A ∧ lo ≤ x ∧ x ≤ hi)))) := by
  have hI := QC_t hZ
  refine zMet_of RX3 hX (by decide) rfl (Nat.le_of_ble_eq_true rfl) ?_
  intro p e s m args below meth c C hr hlk
  show Z p l e (zrm 2) s m args below meth c Γ 4 0 0 (MQ below (zQc Γ (zpi (fun x G' => zsm [402, 403, 404, 405, 406, 407, 408, 409, 410, 411, 412, 413, 2025, 206, 207, 2014, 2015, 2016, 2017, 2036, 2037, 2038, 2039, 2040, 2041, 2042, 2043, 609, 610, 611, 612] G G' ∧ (QC b n N Γ w t (sOnce b n lo hi A) G' ∧ (x = sOnceV b n lo hi A ∧ lo ≤ x ∧ x ≤ hi))))) args s 0 0 (zA Γ)) 0 [some (zr 4 w), some (zi lo), some (zi hi), none] [] G
  refine zs_loc 1 rfl (fun ha1 hb1 => ?_)
  refine zs_loc 2 rfl (fun ha2 hb2 => ?_)
  refine zs_iconst (pc := 0) C dX3_readOnce_0 (by decide) ?_
  refine zs_aload_n (pc := 1) C dX3_readOnce_1 rfl ?_
  refine zs_geti (r := 405) (pc := 2) C dX3_readOnce_2 w_X3_70 f_4_5 rfl (r_405 0) (fun v2 e2 l2 u2 => ?_)
  try simp only [QC_405 hZ] at e2
  try subst v2
  refine zs_ishlX (pc := 5) C dX3_readOnce_5 (fun z5 ez5 hz51 hz52 => ?_)
  refine zs_istore_n (pc := 6) C dX3_readOnce_6 (by decide) ?_
  dsimp only [zset, zclr, znone]
  refine zs_aload_n (pc := 7) C dX3_readOnce_7 rfl ?_
  refine zs_geti (r := 406) (pc := 8) C dX3_readOnce_8 w_X3_45 f_4_6 rfl (r_406 0) (fun v8 e8 l8 u8 => ?_)
  try simp only [QC_406 hZ] at e8
  try subst v8
  refine zs_iload_n (pc := 11) C dX3_readOnce_11 rfl ?_
  refine zs_iandX (pc := 12) C dX3_readOnce_12 (fun z12 ez12 hz121 hz122 => ?_)
  have hbd : z12 = band (A 3 0) (bshl 1 (tW b n A)) := by rw [ez12, ez5]
  refine zs_if_eq (tgt := 23) (pc := 13) C dX3_readOnce_13 (by decide) (fun h13 => ?_) (fun h13 => ?_)
  · skip
    refine zs_aload_n (pc := 23) C dX3_readOnce_23 rfl ?_
    refine zs_dupa (pc := 24) C dX3_readOnce_24 ?_
    refine zs_geti (r := 406) (pc := 25) C dX3_readOnce_25 w_X3_45 f_4_6 rfl (r_406 0) (fun v25 e25 l25 u25 => ?_)
    try simp only [QC_406 hZ] at e25
    try subst v25
    refine zs_iload_n (pc := 28) C dX3_readOnce_28 rfl ?_
    refine zs_iorX (pc := 29) C dX3_readOnce_29 (fun z29 ez29 hz291 hz292 => ?_)
    have h29 : bor (A 3 0) (bshl 1 (tW b n A)) = z29 := by rw [ez29, ez5]
    refine zs_puti (r := 406) (pc := 30) C dX3_readOnce_30 w_X3_45 f_4_6 rfl (r_406 0) (by omega) ?_
    refine zs_aload_n (pc := 33) C dX3_readOnce_33 rfl ?_
    refine zVv0 (pc := 34) C dX3_readOnce_34 v_X3_51 (c_X3_nextF hX (QN_of (by repeat (first | assumption | apply QCw_407 | apply QCw_408 | apply QCw_406 | apply QCw_2037 | apply QCw_2036 | apply QCw_2038 | apply QCw_2039 | apply QCw_2040 | apply QCw_2041 | apply QCw_2042 | apply QCw_2043 | apply QCw_609 | apply QCw_610 | apply QCw_611 | apply QCw_612 | apply QCw_2016 | apply QCw_2017 | apply QCw_2014 | apply QCw_2015 | apply QCw_206 | apply QCw_207 | apply QCw_410 | apply QCw_411 | apply QCw_412 | apply QCw_413 | apply QCw_2025 | refine QC_g (by decide) ?_ | refine QC_sm (by assumption) (by decide) (by decide) ?_)))) (by decide) (by decide) ⟨Nat.zero_le _, Nat.zero_le _⟩ (Nat.le_of_ble_eq_true rfl) (fun G34 hp34 => ?_)
    obtain ⟨hz34, hq34⟩ := hp34
    try simp only [zuI_1, zuI_2, zuJ_1, zuJ_2, zuJ_3, zuP_1, zuP_2, zuP_3, zuC_1, zuC_2, reduceIte, Nat.reduceEqDiff, false_and, and_false, true_and, and_true, and_self, or_true, true_or, or_false, false_or] at hq34
    have hZ34 := hq34
    refine zs_aload_n (pc := 37) C dX3_readOnce_37 rfl ?_
    refine zs_iload_n (pc := 38) C dX3_readOnce_38 rfl ?_
    refine zs_iload_n (pc := 39) C dX3_readOnce_39 rfl ?_
    refine zVi2 (pc := 40) C dX3_readOnce_40 v_X3_121 (c_X3_readNumberF hX (by repeat (first | assumption | apply QCw_407 | apply QCw_408 | apply QCw_406 | apply QCw_2037 | apply QCw_2036 | apply QCw_2038 | apply QCw_2039 | apply QCw_2040 | apply QCw_2041 | apply QCw_2042 | apply QCw_2043 | apply QCw_609 | apply QCw_610 | apply QCw_611 | apply QCw_612 | apply QCw_2016 | apply QCw_2017 | apply QCw_2014 | apply QCw_2015 | apply QCw_206 | apply QCw_207 | apply QCw_410 | apply QCw_411 | apply QCw_412 | apply QCw_413 | apply QCw_2025 | refine QC_g (by decide) ?_ | refine QC_sm (by assumption) (by decide) (by decide) ?_)) (by omega)) (by decide) (by decide) ⟨Nat.zero_le _, Nat.zero_le _⟩ (Nat.le_of_ble_eq_true rfl) (fun x40 G40 l40 u40 hp40 => ?_)
    obtain ⟨hz40, hq40⟩ := hp40
    have hZ40 := hq40.1
    have hX40 := hq40.2.1
    have hB40 := hq40.2.2
    subst hX40
    exact zs_iret (pc := 43) C hr hlk dX3_readOnce_43 ⟨by repeat (first | exact zsm_rf | assumption | refine zsm_C (by decide) ?_ | refine zsm_I (by decide) ?_ | refine zsm_J ?_ | refine zsm_c (by assumption) (by decide) ?_), by
          unfold sOnce sOnceV sOnB
          first
          | (rw [if_pos (by omega), if_pos (by omega)]; exact ⟨by assumption, rfl, by omega, by omega⟩)
          | (rw [if_neg (by omega), if_neg (by omega), h29]; exact ⟨by assumption, rfl, by omega, by omega⟩)⟩
  · skip
    refine zs_aload_n (pc := 16) C dX3_readOnce_16 rfl ?_
    refine zs_iconst (pc := 17) C dX3_readOnce_17 (by decide) ?_
    refine zVv1 (pc := 18) C dX3_readOnce_18 v_X3_114 (c_X3_failF hX (by repeat (first | assumption | apply QCw_407 | apply QCw_408 | apply QCw_406 | apply QCw_2037 | apply QCw_2036 | apply QCw_2038 | apply QCw_2039 | apply QCw_2040 | apply QCw_2041 | apply QCw_2042 | apply QCw_2043 | apply QCw_609 | apply QCw_610 | apply QCw_611 | apply QCw_612 | apply QCw_2016 | apply QCw_2017 | apply QCw_2014 | apply QCw_2015 | apply QCw_206 | apply QCw_207 | apply QCw_410 | apply QCw_411 | apply QCw_412 | apply QCw_413 | apply QCw_2025 | refine QC_g (by decide) ?_ | refine QC_sm (by assumption) (by decide) (by decide) ?_))) (by decide) (by decide) ⟨Nat.zero_le _, Nat.zero_le _⟩ (Nat.le_of_ble_eq_true rfl) (fun G18 hp18 => ?_)
    obtain ⟨hz18, hq18⟩ := hp18
    have hZ18 := hq18
    refine zs_iload_n (pc := 21) C dX3_readOnce_21 rfl ?_
    exact zs_iret (pc := 22) C hr hlk dX3_readOnce_22 ⟨by repeat (first | exact zsm_rf | assumption | refine zsm_C (by decide) ?_ | refine zsm_I (by decide) ?_ | refine zsm_J ?_ | refine zsm_c (by assumption) (by decide) ?_), by
          unfold sOnce sOnceV sOnB
          first
          | (rw [if_pos (by omega), if_pos (by omega)]; exact ⟨by assumption, rfl, by omega, by omega⟩)
          | (rw [if_neg (by omega), if_neg (by omega), h29]; exact ⟨by assumption, rfl, by omega, by omega⟩)⟩

set_option maxHeartbeats 4000000 in
set_option maxRecDepth 100000 in
theorem c_X3_readSinF {l : Launch} {Γ : zΓ} {G : zH} {w t : Nat} {b : Nat → Int} {n : Int} {N : Nat} {A : aS}  (hX : zXs Γ) (hZ : QC b n N Γ w t A G)  : zMet l Γ yX3_readSin cX3_readSin 3 none 3 [zr 4 w] G (zpv (fun G' => zsm [402, 403, 404, 405, 406, 407, 408, 409, 410, 411, 412, 413, 2025, 206, 207, 2014, 2015, 2016, 2017, 2036, 2037, 2038, 2039, 2040, 2041, 2042, 2043, 609, 610, 611, 612] G G' ∧ QC b n N Γ w t (sSin b n A) G')) := by
  have hI := QC_t hZ
  refine zMet_of RX3 hX (by decide) rfl (Nat.le_of_ble_eq_true rfl) ?_
  intro p e s m args below meth c C hr hlk
  show Z p l e (zrm 3) s m args below meth c Γ 3 0 0 (MQ below (zQc Γ (zpv (fun G' => zsm [402, 403, 404, 405, 406, 407, 408, 409, 410, 411, 412, 413, 2025, 206, 207, 2014, 2015, 2016, 2017, 2036, 2037, 2038, 2039, 2040, 2041, 2042, 2043, 609, 610, 611, 612] G G' ∧ QC b n N Γ w t (sSin b n A) G'))) args s 0 0 (zA Γ)) 0 [some (zr 4 w), none, none] [] G
  refine zs_aload_n (pc := 0) C dX3_readSin_0 rfl ?_
  refine zs_iconst (pc := 1) C dX3_readSin_1 (by decide) ?_
  refine zVi1 (pc := 2) C dX3_readSin_2 v_X3_110 (c_X3_readNewF hX (by repeat (first | assumption | apply QCw_407 | apply QCw_408 | apply QCw_406 | apply QCw_2037 | apply QCw_2036 | apply QCw_2038 | apply QCw_2039 | apply QCw_2040 | apply QCw_2041 | apply QCw_2042 | apply QCw_2043 | apply QCw_609 | apply QCw_610 | apply QCw_611 | apply QCw_612 | apply QCw_2016 | apply QCw_2017 | apply QCw_2014 | apply QCw_2015 | apply QCw_206 | apply QCw_207 | apply QCw_410 | apply QCw_411 | apply QCw_412 | apply QCw_413 | apply QCw_2025 | refine QC_g (by decide) ?_ | refine QC_sm (by assumption) (by decide) (by decide) ?_)) (by omega)) (by decide) (by decide) ⟨Nat.zero_le _, Nat.zero_le _⟩ (Nat.le_of_ble_eq_true rfl) (fun x2 G2 l2 u2 hp2 => ?_)
  obtain ⟨hz2, hq2⟩ := hp2
  have hZ2 := hq2.1
  have hX2 := hq2.2.1
  have hB2 := hq2.2.2
  subst hX2
  refine zs_istore_n (pc := 5) C dX3_readSin_5 (by decide) ?_
  dsimp only [zset, zclr, znone]
  refine zs_aload_n (pc := 6) C dX3_readSin_6 rfl ?_
  refine zs_iconst (pc := 7) C dX3_readSin_7 (by decide) ?_
  refine zs_bipush (pc := 8) C dX3_readSin_8 (by decide) (by decide) ?_
  refine zVi2 (pc := 10) C dX3_readSin_10 v_X3_121 (c_X3_readNumberF hX (by repeat (first | assumption | apply QCw_407 | apply QCw_408 | apply QCw_406 | apply QCw_2037 | apply QCw_2036 | apply QCw_2038 | apply QCw_2039 | apply QCw_2040 | apply QCw_2041 | apply QCw_2042 | apply QCw_2043 | apply QCw_609 | apply QCw_610 | apply QCw_611 | apply QCw_612 | apply QCw_2016 | apply QCw_2017 | apply QCw_2014 | apply QCw_2015 | apply QCw_206 | apply QCw_207 | apply QCw_410 | apply QCw_411 | apply QCw_412 | apply QCw_413 | apply QCw_2025 | refine QC_g (by decide) ?_ | refine QC_sm (by assumption) (by decide) (by decide) ?_)) (by omega)) (by decide) (by decide) ⟨Nat.zero_le _, Nat.zero_le _⟩ (Nat.le_of_ble_eq_true rfl) (fun x10 G10 l10 u10 hp10 => ?_)
  obtain ⟨hz10, hq10⟩ := hp10
  have hZ10 := hq10.1
  have hX10 := hq10.2.1
  have hB10 := hq10.2.2
  subst hX10
  refine zs_istore_n (pc := 13) C dX3_readSin_13 (by decide) ?_
  dsimp only [zset, zclr, znone]
  refine zs_aload_n (pc := 14) C dX3_readSin_14 rfl ?_
  refine zs_geti (r := 407) (pc := 15) C dX3_readSin_15 w_X3_38 f_4_7 rfl (r_407 0) (fun v15 e15 l15 u15 => ?_)
  try simp only [QC_407 hZ10, QC_407 hZ2, QC_407 hZ] at e15
  try subst v15
  refine zs_if_ne (tgt := 31) (pc := 18) C dX3_readSin_18 (by decide) (fun h18 => ?_) (fun h18 => ?_)
  · skip
    exact zs_vret (pc := 31) C hr hlk dX3_readSin_31 ⟨by repeat (first | exact zsm_rf | assumption | refine zsm_C (by decide) ?_ | refine zsm_I (by decide) ?_ | refine zsm_J ?_ | refine zsm_c (by assumption) (by decide) ?_), by unfold sSin; (repeat' split) <;> first | assumption | (exfalso; omega) | exact (by repeat (first | assumption | apply QCw_407 | apply QCw_408 | apply QCw_406 | apply QCw_2037 | apply QCw_2036 | apply QCw_2038 | apply QCw_2039 | apply QCw_2040 | apply QCw_2041 | apply QCw_2042 | apply QCw_2043 | apply QCw_609 | apply QCw_610 | apply QCw_611 | apply QCw_612 | apply QCw_2016 | apply QCw_2017 | apply QCw_2014 | apply QCw_2015 | apply QCw_206 | apply QCw_207 | apply QCw_410 | apply QCw_411 | apply QCw_412 | apply QCw_413 | apply QCw_2025 | refine QC_g (by decide) ?_ | refine QC_sm (by assumption) (by decide) (by decide) ?_))⟩
  · skip
    refine zs_aload_n (pc := 21) C dX3_readSin_21 rfl ?_
    refine zs_getd (r := 401) (pc := 22) C dX3_readSin_22 w_X3_21 f_4_1 (by decide) rfl (fun v22 e22 t22 => ?_)
    try simp only [hz2.2, hz10.2, zuI_1, zuI_2, zuJ_1, zuJ_2, zuJ_3, zuP_1, zuP_2, zuP_3, zuC_1, zuC_2, reduceIte, Nat.reduceEqDiff, false_and, and_false, true_and, and_true, and_self, or_true, true_or, or_false, false_or] at e22
    rw [hI] at e22
    subst v22
    refine zs_getf (pc := 25) C dX3_readSin_25 w_X3_124 f_6_3 (by decide) ?_
    refine zs_iload_n (pc := 28) C dX3_readSin_28 rfl ?_
    refine zs_iload_n (pc := 29) C dX3_readSin_29 rfl ?_
    refine zs_iast (r := 2038) (pc := 30) C dX3_readSin_30 a_38 (by decide) (by omega) rfl (r_2038 _) (by omega) ?_
    exact zs_vret (pc := 31) C hr hlk dX3_readSin_31 ⟨by repeat (first | exact zsm_rf | assumption | refine zsm_C (by decide) ?_ | refine zsm_I (by decide) ?_ | refine zsm_J ?_ | refine zsm_c (by assumption) (by decide) ?_), by unfold sSin; (repeat' split) <;> first | assumption | (exfalso; omega) | exact (by repeat (first | assumption | apply QCw_407 | apply QCw_408 | apply QCw_406 | apply QCw_2037 | apply QCw_2036 | apply QCw_2038 | apply QCw_2039 | apply QCw_2040 | apply QCw_2041 | apply QCw_2042 | apply QCw_2043 | apply QCw_609 | apply QCw_610 | apply QCw_611 | apply QCw_612 | apply QCw_2016 | apply QCw_2017 | apply QCw_2014 | apply QCw_2015 | apply QCw_206 | apply QCw_207 | apply QCw_410 | apply QCw_411 | apply QCw_412 | apply QCw_413 | apply QCw_2025 | refine QC_g (by decide) ?_ | refine QC_sm (by assumption) (by decide) (by decide) ?_))⟩

set_option maxHeartbeats 4000000 in
set_option maxRecDepth 100000 in
theorem c_X3_readCakeF {l : Launch} {Γ : zΓ} {G : zH} {w t : Nat} {b : Nat → Int} {n : Int} {N : Nat} {A : aS}  (hX : zXs Γ) (hZ : QC b n N Γ w t A G)  : zMet l Γ yX3_readCake cX3_readCake 5 none 3 [zr 4 w] G (zpv (fun G' => zsm [402, 403, 404, 405, 406, 407, 408, 409, 410, 411, 412, 413, 2025, 206, 207, 2014, 2015, 2016, 2017, 2036, 2037, 2038, 2039, 2040, 2041, 2042, 2043, 609, 610, 611, 612] G G' ∧ QC b n N Γ w t (sCake b n A) G')) := by
  have hI := QC_t hZ
  refine zMet_of RX3 hX (by decide) rfl (Nat.le_of_ble_eq_true rfl) ?_
  intro p e s m args below meth c C hr hlk
  show Z p l e (zrm 3) s m args below meth c Γ 5 0 0 (MQ below (zQc Γ (zpv (fun G' => zsm [402, 403, 404, 405, 406, 407, 408, 409, 410, 411, 412, 413, 2025, 206, 207, 2014, 2015, 2016, 2017, 2036, 2037, 2038, 2039, 2040, 2041, 2042, 2043, 609, 610, 611, 612] G G' ∧ QC b n N Γ w t (sCake b n A) G'))) args s 0 0 (zA Γ)) 0 [some (zr 4 w), none, none, none, none] [] G
  refine zs_aload_n (pc := 0) C dX3_readCake_0 rfl ?_
  refine zs_iconst (pc := 1) C dX3_readCake_1 (by decide) ?_
  refine zVi1 (pc := 2) C dX3_readCake_2 v_X3_110 (c_X3_readNewF hX (by repeat (first | assumption | apply QCw_407 | apply QCw_408 | apply QCw_406 | apply QCw_2037 | apply QCw_2036 | apply QCw_2038 | apply QCw_2039 | apply QCw_2040 | apply QCw_2041 | apply QCw_2042 | apply QCw_2043 | apply QCw_609 | apply QCw_610 | apply QCw_611 | apply QCw_612 | apply QCw_2016 | apply QCw_2017 | apply QCw_2014 | apply QCw_2015 | apply QCw_206 | apply QCw_207 | apply QCw_410 | apply QCw_411 | apply QCw_412 | apply QCw_413 | apply QCw_2025 | refine QC_g (by decide) ?_ | refine QC_sm (by assumption) (by decide) (by decide) ?_)) (by omega)) (by decide) (by decide) ⟨Nat.zero_le _, Nat.zero_le _⟩ (Nat.le_of_ble_eq_true rfl) (fun x2 G2 l2 u2 hp2 => ?_)
  obtain ⟨hz2, hq2⟩ := hp2
  have hZ2 := hq2.1
  have hX2 := hq2.2.1
  have hB2 := hq2.2.2
  subst hX2
  refine zs_istore_n (pc := 5) C dX3_readCake_5 (by decide) ?_
  dsimp only [zset, zclr, znone]
  refine zs_aload_n (pc := 6) C dX3_readCake_6 rfl ?_
  refine zs_iconst (pc := 7) C dX3_readCake_7 (by decide) ?_
  refine zs_sipush (pc := 8) C dX3_readCake_8 (by decide) (by decide) ?_
  refine zVi2 (pc := 11) C dX3_readCake_11 v_X3_121 (c_X3_readNumberF hX (by repeat (first | assumption | apply QCw_407 | apply QCw_408 | apply QCw_406 | apply QCw_2037 | apply QCw_2036 | apply QCw_2038 | apply QCw_2039 | apply QCw_2040 | apply QCw_2041 | apply QCw_2042 | apply QCw_2043 | apply QCw_609 | apply QCw_610 | apply QCw_611 | apply QCw_612 | apply QCw_2016 | apply QCw_2017 | apply QCw_2014 | apply QCw_2015 | apply QCw_206 | apply QCw_207 | apply QCw_410 | apply QCw_411 | apply QCw_412 | apply QCw_413 | apply QCw_2025 | refine QC_g (by decide) ?_ | refine QC_sm (by assumption) (by decide) (by decide) ?_)) (by omega)) (by decide) (by decide) ⟨Nat.zero_le _, Nat.zero_le _⟩ (Nat.le_of_ble_eq_true rfl) (fun x11 G11 l11 u11 hp11 => ?_)
  obtain ⟨hz11, hq11⟩ := hp11
  have hZ11 := hq11.1
  have hX11 := hq11.2.1
  have hB11 := hq11.2.2
  subst hX11
  refine zs_istore_n (pc := 14) C dX3_readCake_14 (by decide) ?_
  dsimp only [zset, zclr, znone]
  refine zs_aload_n (pc := 15) C dX3_readCake_15 rfl ?_
  refine zs_iconst (pc := 16) C dX3_readCake_16 (by decide) ?_
  refine zs_bipush (pc := 17) C dX3_readCake_17 (by decide) (by decide) ?_
  refine zVi2 (pc := 19) C dX3_readCake_19 v_X3_121 (c_X3_readNumberF hX (by repeat (first | assumption | apply QCw_407 | apply QCw_408 | apply QCw_406 | apply QCw_2037 | apply QCw_2036 | apply QCw_2038 | apply QCw_2039 | apply QCw_2040 | apply QCw_2041 | apply QCw_2042 | apply QCw_2043 | apply QCw_609 | apply QCw_610 | apply QCw_611 | apply QCw_612 | apply QCw_2016 | apply QCw_2017 | apply QCw_2014 | apply QCw_2015 | apply QCw_206 | apply QCw_207 | apply QCw_410 | apply QCw_411 | apply QCw_412 | apply QCw_413 | apply QCw_2025 | refine QC_g (by decide) ?_ | refine QC_sm (by assumption) (by decide) (by decide) ?_)) (by omega)) (by decide) (by decide) ⟨Nat.zero_le _, Nat.zero_le _⟩ (Nat.le_of_ble_eq_true rfl) (fun x19 G19 l19 u19 hp19 => ?_)
  obtain ⟨hz19, hq19⟩ := hp19
  have hZ19 := hq19.1
  have hX19 := hq19.2.1
  have hB19 := hq19.2.2
  subst hX19
  refine zs_istore_n (pc := 22) C dX3_readCake_22 (by decide) ?_
  dsimp only [zset, zclr, znone]
  refine zs_aload_n (pc := 23) C dX3_readCake_23 rfl ?_
  refine zs_iconst (pc := 24) C dX3_readCake_24 (by decide) ?_
  refine zs_bipush (pc := 25) C dX3_readCake_25 (by decide) (by decide) ?_
  refine zVi2 (pc := 27) C dX3_readCake_27 v_X3_121 (c_X3_readNumberF hX (by repeat (first | assumption | apply QCw_407 | apply QCw_408 | apply QCw_406 | apply QCw_2037 | apply QCw_2036 | apply QCw_2038 | apply QCw_2039 | apply QCw_2040 | apply QCw_2041 | apply QCw_2042 | apply QCw_2043 | apply QCw_609 | apply QCw_610 | apply QCw_611 | apply QCw_612 | apply QCw_2016 | apply QCw_2017 | apply QCw_2014 | apply QCw_2015 | apply QCw_206 | apply QCw_207 | apply QCw_410 | apply QCw_411 | apply QCw_412 | apply QCw_413 | apply QCw_2025 | refine QC_g (by decide) ?_ | refine QC_sm (by assumption) (by decide) (by decide) ?_)) (by omega)) (by decide) (by decide) ⟨Nat.zero_le _, Nat.zero_le _⟩ (Nat.le_of_ble_eq_true rfl) (fun x27 G27 l27 u27 hp27 => ?_)
  obtain ⟨hz27, hq27⟩ := hp27
  have hZ27 := hq27.1
  have hX27 := hq27.2.1
  have hB27 := hq27.2.2
  subst hX27
  refine zs_istore (pc := 30) C dX3_readCake_30 (by decide) ?_
  dsimp only [zset, zclr, znone]
  refine zs_aload_n (pc := 32) C dX3_readCake_32 rfl ?_
  refine zs_geti (r := 407) (pc := 33) C dX3_readCake_33 w_X3_38 f_4_7 rfl (r_407 0) (fun v33 e33 l33 u33 => ?_)
  try simp only [QC_407 hZ27, QC_407 hZ19, QC_407 hZ11, QC_407 hZ2, QC_407 hZ] at e33
  try subst v33
  refine zs_if_ne (tgt := 70) (pc := 36) C dX3_readCake_36 (by decide) (fun h36 => ?_) (fun h36 => ?_)
  · skip
    exact zs_vret (pc := 70) C hr hlk dX3_readCake_70 ⟨by repeat (first | exact zsm_rf | assumption | refine zsm_C (by decide) ?_ | refine zsm_I (by decide) ?_ | refine zsm_J ?_ | refine zsm_c (by assumption) (by decide) ?_), by unfold sCake sC3 sC2 sC1; (repeat' split) <;> first | assumption | (exfalso; omega) | exact (by repeat (first | assumption | apply QCw_407 | apply QCw_408 | apply QCw_406 | apply QCw_2037 | apply QCw_2036 | apply QCw_2038 | apply QCw_2039 | apply QCw_2040 | apply QCw_2041 | apply QCw_2042 | apply QCw_2043 | apply QCw_609 | apply QCw_610 | apply QCw_611 | apply QCw_612 | apply QCw_2016 | apply QCw_2017 | apply QCw_2014 | apply QCw_2015 | apply QCw_206 | apply QCw_207 | apply QCw_410 | apply QCw_411 | apply QCw_412 | apply QCw_413 | apply QCw_2025 | refine QC_g (by decide) ?_ | refine QC_sm (by assumption) (by decide) (by decide) ?_))⟩
  · skip
    refine zs_aload_n (pc := 39) C dX3_readCake_39 rfl ?_
    refine zs_getd (r := 401) (pc := 40) C dX3_readCake_40 w_X3_21 f_4_1 (by decide) rfl (fun v40 e40 t40 => ?_)
    try simp only [hz2.2, hz11.2, hz19.2, hz27.2, zuI_1, zuI_2, zuJ_1, zuJ_2, zuJ_3, zuP_1, zuP_2, zuP_3, zuC_1, zuC_2, reduceIte, Nat.reduceEqDiff, false_and, and_false, true_and, and_true, and_self, or_true, true_or, or_false, false_or] at e40
    rw [hI] at e40
    subst v40
    refine zs_getf (pc := 43) C dX3_readCake_43 w_X3_139 f_6_6 (by decide) ?_
    refine zs_iload_n (pc := 46) C dX3_readCake_46 rfl ?_
    refine zs_iload_n (pc := 47) C dX3_readCake_47 rfl ?_
    refine zs_iast (r := 2041) (pc := 48) C dX3_readCake_48 a_41 (by decide) (by omega) rfl (r_2041 _) (by omega) ?_
    refine zs_aload_n (pc := 49) C dX3_readCake_49 rfl ?_
    refine zs_getd (r := 401) (pc := 50) C dX3_readCake_50 w_X3_21 f_4_1 (by decide) rfl (fun v50 e50 t50 => ?_)
    try simp only [hz2.2, hz11.2, hz19.2, hz27.2, zuI_1, zuI_2, zuJ_1, zuJ_2, zuJ_3, zuP_1, zuP_2, zuP_3, zuC_1, zuC_2, reduceIte, Nat.reduceEqDiff, false_and, and_false, true_and, and_true, and_self, or_true, true_or, or_false, false_or] at e50
    rw [hI] at e50
    subst v50
    refine zs_getf (pc := 53) C dX3_readCake_53 w_X3_142 f_6_7 (by decide) ?_
    refine zs_iload_n (pc := 56) C dX3_readCake_56 rfl ?_
    refine zs_iload_n (pc := 57) C dX3_readCake_57 rfl ?_
    refine zs_iast (r := 2042) (pc := 58) C dX3_readCake_58 a_42 (by decide) (by omega) rfl (r_2042 _) (by omega) ?_
    refine zs_aload_n (pc := 59) C dX3_readCake_59 rfl ?_
    refine zs_getd (r := 401) (pc := 60) C dX3_readCake_60 w_X3_21 f_4_1 (by decide) rfl (fun v60 e60 t60 => ?_)
    try simp only [hz2.2, hz11.2, hz19.2, hz27.2, zuI_1, zuI_2, zuJ_1, zuJ_2, zuJ_3, zuP_1, zuP_2, zuP_3, zuC_1, zuC_2, reduceIte, Nat.reduceEqDiff, false_and, and_false, true_and, and_true, and_self, or_true, true_or, or_false, false_or] at e60
    rw [hI] at e60
    subst v60
    refine zs_getf (pc := 63) C dX3_readCake_63 w_X3_145 f_6_8 (by decide) ?_
    refine zs_iload_n (pc := 66) C dX3_readCake_66 rfl ?_
    refine zs_iload (pc := 67) C dX3_readCake_67 rfl ?_
    refine zs_iast (r := 2043) (pc := 69) C dX3_readCake_69 a_43 (by decide) (by omega) rfl (r_2043 _) (by omega) ?_
    exact zs_vret (pc := 70) C hr hlk dX3_readCake_70 ⟨by repeat (first | exact zsm_rf | assumption | refine zsm_C (by decide) ?_ | refine zsm_I (by decide) ?_ | refine zsm_J ?_ | refine zsm_c (by assumption) (by decide) ?_), by unfold sCake sC3 sC2 sC1; (repeat' split) <;> first | assumption | (exfalso; omega) | exact (by repeat (first | assumption | apply QCw_407 | apply QCw_408 | apply QCw_406 | apply QCw_2037 | apply QCw_2036 | apply QCw_2038 | apply QCw_2039 | apply QCw_2040 | apply QCw_2041 | apply QCw_2042 | apply QCw_2043 | apply QCw_609 | apply QCw_610 | apply QCw_611 | apply QCw_612 | apply QCw_2016 | apply QCw_2017 | apply QCw_2014 | apply QCw_2015 | apply QCw_206 | apply QCw_207 | apply QCw_410 | apply QCw_411 | apply QCw_412 | apply QCw_413 | apply QCw_2025 | refine QC_g (by decide) ?_ | refine QC_sm (by assumption) (by decide) (by decide) ?_))⟩

set_option maxHeartbeats 4000000 in
set_option maxRecDepth 100000 in
theorem c_X3_readDeedF {l : Launch} {Γ : zΓ} {G : zH} {w t : Nat} {b : Nat → Int} {n : Int} {N : Nat} {A : aS} {p0 : Int} (hX : zXs Γ) (hZ : QC b n N Γ w t A G) (hp : 0 ≤ p0 ∧ p0 ≤ 4) : zMet l Γ yX3_readDeed cX3_readDeed 3 none 2 [zr 4 w, zi p0] G (zpv (fun G' => zsm [402, 403, 404, 405, 406, 407, 408, 409, 410, 411, 412, 413, 2025, 206, 207, 2014, 2015, 2016, 2017, 2036, 2037, 2038, 2039, 2040, 2041, 2042, 2043, 609, 610, 611, 612] G G' ∧ QC b n N Γ w t (sDeed b n p0 A) G')) := by
  have hI := QC_t hZ
  refine zMet_of RX3 hX (by decide) rfl (Nat.le_of_ble_eq_true rfl) ?_
  intro p e s m args below meth c C hr hlk
  show Z p l e (zrm 2) s m args below meth c Γ 3 0 0 (MQ below (zQc Γ (zpv (fun G' => zsm [402, 403, 404, 405, 406, 407, 408, 409, 410, 411, 412, 413, 2025, 206, 207, 2014, 2015, 2016, 2017, 2036, 2037, 2038, 2039, 2040, 2041, 2042, 2043, 609, 610, 611, 612] G G' ∧ QC b n N Γ w t (sDeed b n p0 A) G'))) args s 0 0 (zA Γ)) 0 [some (zr 4 w), some (zi p0), none] [] G
  refine zs_loc 1 rfl (fun ha1 hb1 => ?_)
  refine zs_aload_n (pc := 0) C dX3_readDeed_0 rfl ?_
  refine zs_getd (r := 401) (pc := 1) C dX3_readDeed_1 w_X3_21 f_4_1 (by decide) rfl (fun v1 e1 t1 => ?_)
  rw [hI] at e1
  subst v1
  refine zs_iconst (pc := 4) C dX3_readDeed_4 (by decide) ?_
  refine zs_aload_n (pc := 5) C dX3_readDeed_5 rfl ?_
  refine zs_geti (r := 404) (pc := 6) C dX3_readDeed_6 w_X3_68 f_4_4 rfl (r_404 0) (fun v6 e6 l6 u6 => ?_)
  refine zVip2 (pc := 9) C dX3_readDeed_9 v_X3_133 (c_X5_findF hX (by repeat (first | assumption | apply QCw_407 | apply QCw_408 | apply QCw_406 | apply QCw_2037 | apply QCw_2036 | apply QCw_2038 | apply QCw_2039 | apply QCw_2040 | apply QCw_2041 | apply QCw_2042 | apply QCw_2043 | apply QCw_609 | apply QCw_610 | apply QCw_611 | apply QCw_612 | apply QCw_2016 | apply QCw_2017 | apply QCw_2014 | apply QCw_2015 | apply QCw_206 | apply QCw_207 | apply QCw_410 | apply QCw_411 | apply QCw_412 | apply QCw_413 | apply QCw_2025 | refine QC_g (by decide) ?_ | refine QC_sm (by assumption) (by decide) (by decide) ?_)) (by omega)) (by decide) (by decide) ⟨Nat.zero_le _, Nat.zero_le _⟩ (Nat.le_of_ble_eq_true rfl) (fun x9 l9 u9 hp9 => ?_)
  have hq9 := hp9
  have hX9 := hq9.1
  have hB9 := hq9.2
  subst hX9
  refine zs_istore_n (pc := 12) C dX3_readDeed_12 (by decide) ?_
  dsimp only [zset, zclr, znone]
  refine zs_aload_n (pc := 13) C dX3_readDeed_13 rfl ?_
  refine zs_geti (r := 403) (pc := 14) C dX3_readDeed_14 w_X3_54 f_4_3 rfl (r_403 0) (fun v14 e14 l14 u14 => ?_)
  try simp only [QC_403 hZ] at e14
  try subst v14
  refine zs_iconst (pc := 17) C dX3_readDeed_17 (by decide) ?_
  refine zs_icmp_eq (tgt := 29) (pc := 18) C dX3_readDeed_18 (by decide) (fun h18 => ?_) (fun h18 => ?_)
  · skip
    have h6 : v6 = tV b n A := by rw [e6]; exact (QC_404 hZ).2 (by omega)
    subst h6
    refine zs_iload_n (pc := 29) C dX3_readDeed_29 rfl ?_
    refine zs_iconst (pc := 30) C dX3_readDeed_30 (by decide) ?_
    refine zs_icmp_ne (tgt := 42) (pc := 31) C dX3_readDeed_31 (by decide) (fun h31 => ?_) (fun h31 => ?_)
    · skip
      refine zs_aload_n (pc := 42) C dX3_readDeed_42 rfl ?_
      refine zs_getd (r := 401) (pc := 43) C dX3_readDeed_43 w_X3_21 f_4_1 (by decide) rfl (fun v43 e43 t43 => ?_)
      rw [hI] at e43
      subst v43
      refine zs_getf (pc := 46) C dX3_readDeed_46 w_X3_136 f_6_5 (by decide) ?_
      refine zs_iload_n (pc := 49) C dX3_readDeed_49 rfl ?_
      refine zs_iconst (pc := 50) C dX3_readDeed_50 (by decide) ?_
      first | refine zs_imul (pc := 51) C dX3_readDeed_51 (by omega) ?_ | refine zs_imulF (pc := 51) C dX3_readDeed_51 (fun z51 hz511 hz512 => ?_)
      refine zs_iload_n (pc := 52) C dX3_readDeed_52 rfl ?_
      first | refine zs_iadd (pc := 53) C dX3_readDeed_53 (by omega) ?_ | refine zs_iaddF (pc := 53) C dX3_readDeed_53 (fun z53 hz531 hz532 => ?_)
      refine zs_iald (r := 2040) (pc := 54) C dX3_readDeed_54 a_40 (by decide) (by omega) rfl (r_2040 _) (fun v54 e54 l54 u54 => ?_)
      try simp only [QC_2040 hZ] at e54
      try subst v54
      refine zs_if_eq (tgt := 66) (pc := 55) C dX3_readDeed_55 (by decide) (fun h55 => ?_) (fun h55 => ?_)
      · skip
        refine zs_aload_n (pc := 66) C dX3_readDeed_66 rfl ?_
        refine zVv0 (pc := 67) C dX3_readDeed_67 v_X3_51 (c_X3_nextF hX (QN_of (by repeat (first | assumption | apply QCw_407 | apply QCw_408 | apply QCw_406 | apply QCw_2037 | apply QCw_2036 | apply QCw_2038 | apply QCw_2039 | apply QCw_2040 | apply QCw_2041 | apply QCw_2042 | apply QCw_2043 | apply QCw_609 | apply QCw_610 | apply QCw_611 | apply QCw_612 | apply QCw_2016 | apply QCw_2017 | apply QCw_2014 | apply QCw_2015 | apply QCw_206 | apply QCw_207 | apply QCw_410 | apply QCw_411 | apply QCw_412 | apply QCw_413 | apply QCw_2025 | refine QC_g (by decide) ?_ | refine QC_sm (by assumption) (by decide) (by decide) ?_)))) (by decide) (by decide) ⟨Nat.zero_le _, Nat.zero_le _⟩ (Nat.le_of_ble_eq_true rfl) (fun G67 hp67 => ?_)
        obtain ⟨hz67, hq67⟩ := hp67
        have hZ67 := hq67
        refine zs_aload_n (pc := 70) C dX3_readDeed_70 rfl ?_
        refine zs_getd (r := 401) (pc := 71) C dX3_readDeed_71 w_X3_21 f_4_1 (by decide) rfl (fun v71 e71 t71 => ?_)
        try simp only [hz67.2, zuI_1, zuI_2, zuJ_1, zuJ_2, zuJ_3, zuP_1, zuP_2, zuP_3, zuC_1, zuC_2, reduceIte, Nat.reduceEqDiff, false_and, and_false, true_and, and_true, and_self, or_true, true_or, or_false, false_or] at e71
        rw [hI] at e71
        subst v71
        refine zs_getf (pc := 74) C dX3_readDeed_74 w_X3_136 f_6_5 (by decide) ?_
        refine zs_iload_n (pc := 77) C dX3_readDeed_77 rfl ?_
        refine zs_iconst (pc := 78) C dX3_readDeed_78 (by decide) ?_
        first | refine zs_imul (pc := 79) C dX3_readDeed_79 (by omega) ?_ | refine zs_imulF (pc := 79) C dX3_readDeed_79 (fun z79 hz791 hz792 => ?_)
        refine zs_iload_n (pc := 80) C dX3_readDeed_80 rfl ?_
        first | refine zs_iadd (pc := 81) C dX3_readDeed_81 (by omega) ?_ | refine zs_iaddF (pc := 81) C dX3_readDeed_81 (fun z81 hz811 hz812 => ?_)
        refine zs_aload_n (pc := 82) C dX3_readDeed_82 rfl ?_
        refine zs_iconst (pc := 83) C dX3_readDeed_83 (by decide) ?_
        refine zs_bipush (pc := 84) C dX3_readDeed_84 (by decide) (by decide) ?_
        refine zVi2 (pc := 86) C dX3_readDeed_86 v_X3_121 (c_X3_readNumberF hX (by repeat (first | assumption | apply QCw_407 | apply QCw_408 | apply QCw_406 | apply QCw_2037 | apply QCw_2036 | apply QCw_2038 | apply QCw_2039 | apply QCw_2040 | apply QCw_2041 | apply QCw_2042 | apply QCw_2043 | apply QCw_609 | apply QCw_610 | apply QCw_611 | apply QCw_612 | apply QCw_2016 | apply QCw_2017 | apply QCw_2014 | apply QCw_2015 | apply QCw_206 | apply QCw_207 | apply QCw_410 | apply QCw_411 | apply QCw_412 | apply QCw_413 | apply QCw_2025 | refine QC_g (by decide) ?_ | refine QC_sm (by assumption) (by decide) (by decide) ?_)) (by omega)) (by decide) (by decide) ⟨Nat.zero_le _, Nat.zero_le _⟩ (Nat.le_of_ble_eq_true rfl) (fun x86 G86 l86 u86 hp86 => ?_)
        obtain ⟨hz86, hq86⟩ := hp86
        have hZ86 := hq86.1
        have hX86 := hq86.2.1
        have hB86 := hq86.2.2
        subst hX86
        refine zs_iast (r := 2040) (pc := 89) C dX3_readDeed_89 a_40 (by decide) (by omega) rfl (r_2040 _) (by omega) ?_
        exact zs_vret (pc := 90) C hr hlk dX3_readDeed_90 ⟨by repeat (first | exact zsm_rf | assumption | refine zsm_C (by decide) ?_ | refine zsm_I (by decide) ?_ | refine zsm_J ?_ | refine zsm_c (by assumption) (by decide) ?_), by unfold sDeed; (repeat' split) <;> first | assumption | (exfalso; omega) | exact (by repeat (first | assumption | apply QCw_407 | apply QCw_408 | apply QCw_406 | apply QCw_2037 | apply QCw_2036 | apply QCw_2038 | apply QCw_2039 | apply QCw_2040 | apply QCw_2041 | apply QCw_2042 | apply QCw_2043 | apply QCw_609 | apply QCw_610 | apply QCw_611 | apply QCw_612 | apply QCw_2016 | apply QCw_2017 | apply QCw_2014 | apply QCw_2015 | apply QCw_206 | apply QCw_207 | apply QCw_410 | apply QCw_411 | apply QCw_412 | apply QCw_413 | apply QCw_2025 | refine QC_g (by decide) ?_ | refine QC_sm (by assumption) (by decide) (by decide) ?_))⟩
      · skip
        refine zs_aload_n (pc := 58) C dX3_readDeed_58 rfl ?_
        refine zs_iconst (pc := 59) C dX3_readDeed_59 (by decide) ?_
        refine zVv1 (pc := 60) C dX3_readDeed_60 v_X3_114 (c_X3_failF hX (by repeat (first | assumption | apply QCw_407 | apply QCw_408 | apply QCw_406 | apply QCw_2037 | apply QCw_2036 | apply QCw_2038 | apply QCw_2039 | apply QCw_2040 | apply QCw_2041 | apply QCw_2042 | apply QCw_2043 | apply QCw_609 | apply QCw_610 | apply QCw_611 | apply QCw_612 | apply QCw_2016 | apply QCw_2017 | apply QCw_2014 | apply QCw_2015 | apply QCw_206 | apply QCw_207 | apply QCw_410 | apply QCw_411 | apply QCw_412 | apply QCw_413 | apply QCw_2025 | refine QC_g (by decide) ?_ | refine QC_sm (by assumption) (by decide) (by decide) ?_))) (by decide) (by decide) ⟨Nat.zero_le _, Nat.zero_le _⟩ (Nat.le_of_ble_eq_true rfl) (fun G60 hp60 => ?_)
        obtain ⟨hz60, hq60⟩ := hp60
        have hZ60 := hq60
        refine zs_goto (tgt := 90) (pc := 63) C dX3_readDeed_63 (by decide) ?_
        exact zs_vret (pc := 90) C hr hlk dX3_readDeed_90 ⟨by repeat (first | exact zsm_rf | assumption | refine zsm_C (by decide) ?_ | refine zsm_I (by decide) ?_ | refine zsm_J ?_ | refine zsm_c (by assumption) (by decide) ?_), by unfold sDeed; (repeat' split) <;> first | assumption | (exfalso; omega) | exact (by repeat (first | assumption | apply QCw_407 | apply QCw_408 | apply QCw_406 | apply QCw_2037 | apply QCw_2036 | apply QCw_2038 | apply QCw_2039 | apply QCw_2040 | apply QCw_2041 | apply QCw_2042 | apply QCw_2043 | apply QCw_609 | apply QCw_610 | apply QCw_611 | apply QCw_612 | apply QCw_2016 | apply QCw_2017 | apply QCw_2014 | apply QCw_2015 | apply QCw_206 | apply QCw_207 | apply QCw_410 | apply QCw_411 | apply QCw_412 | apply QCw_413 | apply QCw_2025 | refine QC_g (by decide) ?_ | refine QC_sm (by assumption) (by decide) (by decide) ?_))⟩
    · skip
      refine zs_aload_n (pc := 34) C dX3_readDeed_34 rfl ?_
      refine zs_iconst (pc := 35) C dX3_readDeed_35 (by decide) ?_
      refine zVv1 (pc := 36) C dX3_readDeed_36 v_X3_114 (c_X3_failF hX (by repeat (first | assumption | apply QCw_407 | apply QCw_408 | apply QCw_406 | apply QCw_2037 | apply QCw_2036 | apply QCw_2038 | apply QCw_2039 | apply QCw_2040 | apply QCw_2041 | apply QCw_2042 | apply QCw_2043 | apply QCw_609 | apply QCw_610 | apply QCw_611 | apply QCw_612 | apply QCw_2016 | apply QCw_2017 | apply QCw_2014 | apply QCw_2015 | apply QCw_206 | apply QCw_207 | apply QCw_410 | apply QCw_411 | apply QCw_412 | apply QCw_413 | apply QCw_2025 | refine QC_g (by decide) ?_ | refine QC_sm (by assumption) (by decide) (by decide) ?_))) (by decide) (by decide) ⟨Nat.zero_le _, Nat.zero_le _⟩ (Nat.le_of_ble_eq_true rfl) (fun G36 hp36 => ?_)
      obtain ⟨hz36, hq36⟩ := hp36
      have hZ36 := hq36
      refine zs_goto (tgt := 90) (pc := 39) C dX3_readDeed_39 (by decide) ?_
      exact zs_vret (pc := 90) C hr hlk dX3_readDeed_90 ⟨by repeat (first | exact zsm_rf | assumption | refine zsm_C (by decide) ?_ | refine zsm_I (by decide) ?_ | refine zsm_J ?_ | refine zsm_c (by assumption) (by decide) ?_), by unfold sDeed; (repeat' split) <;> first | assumption | (exfalso; omega) | exact (by repeat (first | assumption | apply QCw_407 | apply QCw_408 | apply QCw_406 | apply QCw_2037 | apply QCw_2036 | apply QCw_2038 | apply QCw_2039 | apply QCw_2040 | apply QCw_2041 | apply QCw_2042 | apply QCw_2043 | apply QCw_609 | apply QCw_610 | apply QCw_611 | apply QCw_612 | apply QCw_2016 | apply QCw_2017 | apply QCw_2014 | apply QCw_2015 | apply QCw_206 | apply QCw_207 | apply QCw_410 | apply QCw_411 | apply QCw_412 | apply QCw_413 | apply QCw_2025 | refine QC_g (by decide) ?_ | refine QC_sm (by assumption) (by decide) (by decide) ?_))⟩
  · skip
    refine zs_aload_n (pc := 21) C dX3_readDeed_21 rfl ?_
    refine zs_iconst (pc := 22) C dX3_readDeed_22 (by decide) ?_
    refine zVv1 (pc := 23) C dX3_readDeed_23 v_X3_114 (c_X3_failF hX (by repeat (first | assumption | apply QCw_407 | apply QCw_408 | apply QCw_406 | apply QCw_2037 | apply QCw_2036 | apply QCw_2038 | apply QCw_2039 | apply QCw_2040 | apply QCw_2041 | apply QCw_2042 | apply QCw_2043 | apply QCw_609 | apply QCw_610 | apply QCw_611 | apply QCw_612 | apply QCw_2016 | apply QCw_2017 | apply QCw_2014 | apply QCw_2015 | apply QCw_206 | apply QCw_207 | apply QCw_410 | apply QCw_411 | apply QCw_412 | apply QCw_413 | apply QCw_2025 | refine QC_g (by decide) ?_ | refine QC_sm (by assumption) (by decide) (by decide) ?_))) (by decide) (by decide) ⟨Nat.zero_le _, Nat.zero_le _⟩ (Nat.le_of_ble_eq_true rfl) (fun G23 hp23 => ?_)
    obtain ⟨hz23, hq23⟩ := hp23
    have hZ23 := hq23
    refine zs_goto (tgt := 90) (pc := 26) C dX3_readDeed_26 (by decide) ?_
    exact zs_vret (pc := 90) C hr hlk dX3_readDeed_90 ⟨by repeat (first | exact zsm_rf | assumption | refine zsm_C (by decide) ?_ | refine zsm_I (by decide) ?_ | refine zsm_J ?_ | refine zsm_c (by assumption) (by decide) ?_), by unfold sDeed; (repeat' split) <;> first | assumption | (exfalso; omega) | exact (by repeat (first | assumption | apply QCw_407 | apply QCw_408 | apply QCw_406 | apply QCw_2037 | apply QCw_2036 | apply QCw_2038 | apply QCw_2039 | apply QCw_2040 | apply QCw_2041 | apply QCw_2042 | apply QCw_2043 | apply QCw_609 | apply QCw_610 | apply QCw_611 | apply QCw_612 | apply QCw_2016 | apply QCw_2017 | apply QCw_2014 | apply QCw_2015 | apply QCw_206 | apply QCw_207 | apply QCw_410 | apply QCw_411 | apply QCw_412 | apply QCw_413 | apply QCw_2025 | refine QC_g (by decide) ?_ | refine QC_sm (by assumption) (by decide) (by decide) ?_))⟩

theorem dds_e {b : Nat → Int} {n p : Int} {A : aS} (h : ¬ (A 1 0 = 0 ∧ tW b n A = 2)) : ∀ m : Nat, sDeeds b n p m A = A
  | 0 => rfl
  | m + 1 => by rw [sDeeds, if_neg h]

set_option maxHeartbeats 4000000 in
set_option maxRecDepth 100000 in
theorem c_X3_readPersonF {l : Launch} {Γ : zΓ} {G : zH} {w t : Nat} {b : Nat → Int} {n : Int} {N : Nat} {A : aS}  (hX : zXs Γ) (hZ : QC b n N Γ w t A G)  : zMet l Γ yX3_readPerson cX3_readPerson 4 none 3 [zr 4 w] G (zpv (fun G' => zsm [402, 403, 404, 405, 406, 407, 408, 409, 410, 411, 412, 413, 2025, 206, 207, 2014, 2015, 2016, 2017, 2036, 2037, 2038, 2039, 2040, 2041, 2042, 2043, 609, 610, 611, 612] G G' ∧ QC b n N Γ w t (sPerson b n A) G')) := by
  have hI := QC_t hZ
  refine zMet_of RX3 hX (by decide) rfl (Nat.le_of_ble_eq_true rfl) ?_
  intro p e s m args below meth c C hr hlk
  show Z p l e (zrm 3) s m args below meth c Γ 4 0 0 (MQ below (zQc Γ (zpv (fun G' => zsm [402, 403, 404, 405, 406, 407, 408, 409, 410, 411, 412, 413, 2025, 206, 207, 2014, 2015, 2016, 2017, 2036, 2037, 2038, 2039, 2040, 2041, 2042, 2043, 609, 610, 611, 612] G G' ∧ QC b n N Γ w t (sPerson b n A) G'))) args s 0 0 (zA Γ)) 0 [some (zr 4 w), none, none, none] [] G
  refine zs_aload_n (pc := 0) C dX3_readPerson_0 rfl ?_
  refine zs_iconst (pc := 1) C dX3_readPerson_1 (by decide) ?_
  refine zVi1 (pc := 2) C dX3_readPerson_2 v_X3_110 (c_X3_readNewF hX (by repeat (first | assumption | apply QCw_407 | apply QCw_408 | apply QCw_406 | apply QCw_2037 | apply QCw_2036 | apply QCw_2038 | apply QCw_2039 | apply QCw_2040 | apply QCw_2041 | apply QCw_2042 | apply QCw_2043 | apply QCw_609 | apply QCw_610 | apply QCw_611 | apply QCw_612 | apply QCw_2016 | apply QCw_2017 | apply QCw_2014 | apply QCw_2015 | apply QCw_206 | apply QCw_207 | apply QCw_410 | apply QCw_411 | apply QCw_412 | apply QCw_413 | apply QCw_2025 | refine QC_g (by decide) ?_ | refine QC_sm (by assumption) (by decide) (by decide) ?_)) (by omega)) (by decide) (by decide) ⟨Nat.zero_le _, Nat.zero_le _⟩ (Nat.le_of_ble_eq_true rfl) (fun x2 G2 l2 u2 hp2 => ?_)
  obtain ⟨hz2, hq2⟩ := hp2
  have hZ2 := hq2.1
  have hX2 := hq2.2.1
  have hB2 := hq2.2.2
  subst hX2
  refine zs_istore_n (pc := 5) C dX3_readPerson_5 (by decide) ?_
  dsimp only [zset, zclr, znone]
  refine zs_aload_n (pc := 6) C dX3_readPerson_6 rfl ?_
  refine zs_iconst (pc := 7) C dX3_readPerson_7 (by decide) ?_
  refine zs_bipush (pc := 8) C dX3_readPerson_8 (by decide) (by decide) ?_
  refine zVi2 (pc := 10) C dX3_readPerson_10 v_X3_121 (c_X3_readNumberF hX (by repeat (first | assumption | apply QCw_407 | apply QCw_408 | apply QCw_406 | apply QCw_2037 | apply QCw_2036 | apply QCw_2038 | apply QCw_2039 | apply QCw_2040 | apply QCw_2041 | apply QCw_2042 | apply QCw_2043 | apply QCw_609 | apply QCw_610 | apply QCw_611 | apply QCw_612 | apply QCw_2016 | apply QCw_2017 | apply QCw_2014 | apply QCw_2015 | apply QCw_206 | apply QCw_207 | apply QCw_410 | apply QCw_411 | apply QCw_412 | apply QCw_413 | apply QCw_2025 | refine QC_g (by decide) ?_ | refine QC_sm (by assumption) (by decide) (by decide) ?_)) (by omega)) (by decide) (by decide) ⟨Nat.zero_le _, Nat.zero_le _⟩ (Nat.le_of_ble_eq_true rfl) (fun x10 G10 l10 u10 hp10 => ?_)
  obtain ⟨hz10, hq10⟩ := hp10
  have hZ10 := hq10.1
  have hX10 := hq10.2.1
  have hB10 := hq10.2.2
  subst hX10
  refine zs_istore_n (pc := 13) C dX3_readPerson_13 (by decide) ?_
  dsimp only [zset, zclr, znone]
  refine zs_aload_n (pc := 14) C dX3_readPerson_14 rfl ?_
  refine zs_geti (r := 407) (pc := 15) C dX3_readPerson_15 w_X3_38 f_4_7 rfl (r_407 0) (fun v15 e15 l15 u15 => ?_)
  try simp only [QC_407 hZ10, QC_407 hZ2, QC_407 hZ] at e15
  try subst v15
  refine zs_if_ne (tgt := 31) (pc := 18) C dX3_readPerson_18 (by decide) (fun h18 => ?_) (fun h18 => ?_)
  · skip
    refine zs_iconst (pc := 31) C dX3_readPerson_31 (by decide) ?_
    refine zs_istore_n (pc := 32) C dX3_readPerson_32 (by decide) ?_
    dsimp only [zset, zclr, znone]
    have L33 : ∀ (nn : Nat) (x3 : Int) (G1 : zH) (A1 : aS), (0 ≤ x3 ∧ x3 ≤ 700) → (zsm [402, 403, 404, 405, 406, 407, 408, 409, 410, 411, 412, 413, 2025, 206, 207, 2014, 2015, 2016, 2017, 2036, 2037, 2038, 2039, 2040, 2041, 2042, 2043, 609, 610, 611, 612] G G1) → (QC b n N Γ w t (A1) G1) → (sDeeds b n (sNewV b n 1 A) (700 - x3).toNat A1 = sPerson b n A) → (700 - x3).toNat < nn → Z p l e (zrm 3) s m args below meth c Γ 4 0 0 (MQ below (zQc Γ (zpv (fun G' => zsm [402, 403, 404, 405, 406, 407, 408, 409, 410, 411, 412, 413, 2025, 206, 207, 2014, 2015, 2016, 2017, 2036, 2037, 2038, 2039, 2040, 2041, 2042, 2043, 609, 610, 611, 612] G G' ∧ QC b n N Γ w t (sPerson b n A) G'))) args s 0 0 (zA Γ)) 33 [some (zr 4 w), some (zi (sNewV b n 1 A)), none, some (zi x3)] [] G1 := by
      intro nn
      induction nn with
      | zero => intro x3 G1 A1 h33_0 h33_1 h33_2 h33_3 hm; exact absurd hm (Nat.not_lt_zero _)
      | succ nn ih33 =>
        intro x3 G1 A1 h33_0 h33_1 h33_2 h33_3 hm33
        refine zs_iload_n (pc := 33) C dX3_readPerson_33 rfl ?_
        refine zs_sipush (pc := 34) C dX3_readPerson_34 (by decide) (by decide) ?_
        refine zs_icmp_ge (tgt := 70) (pc := 37) C dX3_readPerson_37 (by decide) (fun h37 => ?_) (fun h37 => ?_)
        · skip
          exact zs_vret (pc := 70) C hr hlk dX3_readPerson_70 ⟨by repeat (first | exact zsm_rf | assumption | refine zsm_C (by decide) ?_ | refine zsm_I (by decide) ?_ | refine zsm_J ?_ | refine zsm_c (by assumption) (by decide) ?_), by have e9 : sPerson b n A = A1 := (by rw [← h33_3]; first | exact dds_e (by omega) _ | (rw [show (700 - x3).toNat = 0 by omega]; rfl)); rw [e9]; exact h33_2⟩
        · skip
          refine zs_aload_n (pc := 40) C dX3_readPerson_40 rfl ?_
          refine zs_geti (r := 407) (pc := 41) C dX3_readPerson_41 w_X3_38 f_4_7 rfl (r_407 0) (fun v41 e41 l41 u41 => ?_)
          try simp only [QC_407 h33_2] at e41
          try subst v41
          refine zs_if_ne (tgt := 70) (pc := 44) C dX3_readPerson_44 (by decide) (fun h44 => ?_) (fun h44 => ?_)
          · skip
            exact zs_vret (pc := 70) C hr hlk dX3_readPerson_70 ⟨by repeat (first | exact zsm_rf | assumption | refine zsm_C (by decide) ?_ | refine zsm_I (by decide) ?_ | refine zsm_J ?_ | refine zsm_c (by assumption) (by decide) ?_), by have e9 : sPerson b n A = A1 := (by rw [← h33_3]; first | exact dds_e (by omega) _ | (rw [show (700 - x3).toNat = 0 by omega]; rfl)); rw [e9]; exact h33_2⟩
          · skip
            refine zs_aload_n (pc := 47) C dX3_readPerson_47 rfl ?_
            refine zs_geti (r := 405) (pc := 48) C dX3_readPerson_48 w_X3_70 f_4_5 rfl (r_405 0) (fun v48 e48 l48 u48 => ?_)
            try simp only [QC_405 h33_2] at e48
            try subst v48
            refine zs_iconst (pc := 51) C dX3_readPerson_51 (by decide) ?_
            refine zs_icmp_ne (tgt := 70) (pc := 52) C dX3_readPerson_52 (by decide) (fun h52 => ?_) (fun h52 => ?_)
            · skip
              exact zs_vret (pc := 70) C hr hlk dX3_readPerson_70 ⟨by repeat (first | exact zsm_rf | assumption | refine zsm_C (by decide) ?_ | refine zsm_I (by decide) ?_ | refine zsm_J ?_ | refine zsm_c (by assumption) (by decide) ?_), by have e9 : sPerson b n A = A1 := (by rw [← h33_3]; first | exact dds_e (by omega) _ | (rw [show (700 - x3).toNat = 0 by omega]; rfl)); rw [e9]; exact h33_2⟩
            · skip
              refine zs_aload_n (pc := 55) C dX3_readPerson_55 rfl ?_
              refine zVv0 (pc := 56) C dX3_readPerson_56 v_X3_51 (c_X3_nextF hX (QN_of (by repeat (first | assumption | apply QCw_407 | apply QCw_408 | apply QCw_406 | apply QCw_2037 | apply QCw_2036 | apply QCw_2038 | apply QCw_2039 | apply QCw_2040 | apply QCw_2041 | apply QCw_2042 | apply QCw_2043 | apply QCw_609 | apply QCw_610 | apply QCw_611 | apply QCw_612 | apply QCw_2016 | apply QCw_2017 | apply QCw_2014 | apply QCw_2015 | apply QCw_206 | apply QCw_207 | apply QCw_410 | apply QCw_411 | apply QCw_412 | apply QCw_413 | apply QCw_2025 | refine QC_g (by decide) ?_ | refine QC_sm (by assumption) (by decide) (by decide) ?_)))) (by decide) (by decide) ⟨Nat.zero_le _, Nat.zero_le _⟩ (Nat.le_of_ble_eq_true rfl) (fun G56 hp56 => ?_)
              obtain ⟨hz56, hq56⟩ := hp56
              have hZ56 := hq56
              refine zs_aload_n (pc := 59) C dX3_readPerson_59 rfl ?_
              refine zs_iload_n (pc := 60) C dX3_readPerson_60 rfl ?_
              refine zVv1 (pc := 61) C dX3_readPerson_61 v_X3_130 (c_X3_readDeedF hX (by repeat (first | assumption | apply QCw_407 | apply QCw_408 | apply QCw_406 | apply QCw_2037 | apply QCw_2036 | apply QCw_2038 | apply QCw_2039 | apply QCw_2040 | apply QCw_2041 | apply QCw_2042 | apply QCw_2043 | apply QCw_609 | apply QCw_610 | apply QCw_611 | apply QCw_612 | apply QCw_2016 | apply QCw_2017 | apply QCw_2014 | apply QCw_2015 | apply QCw_206 | apply QCw_207 | apply QCw_410 | apply QCw_411 | apply QCw_412 | apply QCw_413 | apply QCw_2025 | refine QC_g (by decide) ?_ | refine QC_sm (by assumption) (by decide) (by decide) ?_)) (by omega)) (by decide) (by decide) ⟨Nat.zero_le _, Nat.zero_le _⟩ (Nat.le_of_ble_eq_true rfl) (fun G61 hp61 => ?_)
              obtain ⟨hz61, hq61⟩ := hp61
              have hZ61 := hq61
              first | refine zs_iinc (pc := 64) C dX3_readPerson_64 rfl (by decide) (by omega) ?_ | refine zs_iincF (pc := 64) C dX3_readPerson_64 rfl (by decide) (fun z64 hz641 hz642 => ?_)
              dsimp only [zset, zclr, znone]
              refine zs_goto (tgt := 33) (pc := 67) C dX3_readPerson_67 (by decide) ?_
              exact zs_wk (ih33 _ _ _ (by omega) (by repeat (first | exact zsm_rf | assumption | refine zsm_C (by decide) ?_ | refine zsm_I (by decide) ?_ | refine zsm_J ?_ | refine zsm_c (by assumption) (by decide) ?_)) hZ61 (by rw [← h33_3, show (700 - x3).toNat = (700 - (x3 + 1)).toNat + 1 by omega, sDeeds, if_pos ⟨by omega, by omega⟩]) (by first | omega | (simp only [zuI_1, zuI_2, zuJ_1, zuJ_2, zuJ_3, zuP_1, zuP_2, zuP_3, zuC_1, zuC_2, reduceIte, Nat.reduceEqDiff, false_and, and_false, true_and, and_true, and_self, or_true, true_or, or_false, false_or]; omega))) (zwk_s rfl (zwk_s rfl (zwk_n (zwk_s rfl zwk_0))))
    exact zs_wk (L33 _ _ _ _ (by omega) (by repeat (first | exact zsm_rf | assumption | refine zsm_C (by decide) ?_ | refine zsm_I (by decide) ?_ | refine zsm_J ?_ | refine zsm_c (by assumption) (by decide) ?_)) (show QC b n N Γ w t (sHon b n A) _ from (by unfold sHon; (repeat' split) <;> first | assumption | (exfalso; omega) | exact (by repeat (first | assumption | apply QCw_407 | apply QCw_408 | apply QCw_406 | apply QCw_2037 | apply QCw_2036 | apply QCw_2038 | apply QCw_2039 | apply QCw_2040 | apply QCw_2041 | apply QCw_2042 | apply QCw_2043 | apply QCw_609 | apply QCw_610 | apply QCw_611 | apply QCw_612 | apply QCw_2016 | apply QCw_2017 | apply QCw_2014 | apply QCw_2015 | apply QCw_206 | apply QCw_207 | apply QCw_410 | apply QCw_411 | apply QCw_412 | apply QCw_413 | apply QCw_2025 | refine QC_g (by decide) ?_ | refine QC_sm (by assumption) (by decide) (by decide) ?_)))) rfl (Nat.lt_succ_self _)) (zwk_s rfl (zwk_s rfl (zwk_n (zwk_s rfl zwk_0))))
  · skip
    refine zs_aload_n (pc := 21) C dX3_readPerson_21 rfl ?_
    refine zs_getd (r := 401) (pc := 22) C dX3_readPerson_22 w_X3_21 f_4_1 (by decide) rfl (fun v22 e22 t22 => ?_)
    try simp only [hz2.2, hz10.2, zuI_1, zuI_2, zuJ_1, zuJ_2, zuJ_3, zuP_1, zuP_2, zuP_3, zuC_1, zuC_2, reduceIte, Nat.reduceEqDiff, false_and, and_false, true_and, and_true, and_self, or_true, true_or, or_false, false_or] at e22
    rw [hI] at e22
    subst v22
    refine zs_getf (pc := 25) C dX3_readPerson_25 w_X3_127 f_6_4 (by decide) ?_
    refine zs_iload_n (pc := 28) C dX3_readPerson_28 rfl ?_
    refine zs_iload_n (pc := 29) C dX3_readPerson_29 rfl ?_
    refine zs_iast (r := 2039) (pc := 30) C dX3_readPerson_30 a_39 (by decide) (by omega) rfl (r_2039 _) (by omega) ?_
    refine zs_iconst (pc := 31) C dX3_readPerson_31 (by decide) ?_
    refine zs_istore_n (pc := 32) C dX3_readPerson_32 (by decide) ?_
    dsimp only [zset, zclr, znone]
    have L33 : ∀ (nn : Nat) (x3 : Int) (G1 : zH) (A1 : aS), (0 ≤ x3 ∧ x3 ≤ 700) → (zsm [402, 403, 404, 405, 406, 407, 408, 409, 410, 411, 412, 413, 2025, 206, 207, 2014, 2015, 2016, 2017, 2036, 2037, 2038, 2039, 2040, 2041, 2042, 2043, 609, 610, 611, 612] G G1) → (QC b n N Γ w t (A1) G1) → (sDeeds b n (sNewV b n 1 A) (700 - x3).toNat A1 = sPerson b n A) → (700 - x3).toNat < nn → Z p l e (zrm 3) s m args below meth c Γ 4 0 0 (MQ below (zQc Γ (zpv (fun G' => zsm [402, 403, 404, 405, 406, 407, 408, 409, 410, 411, 412, 413, 2025, 206, 207, 2014, 2015, 2016, 2017, 2036, 2037, 2038, 2039, 2040, 2041, 2042, 2043, 609, 610, 611, 612] G G' ∧ QC b n N Γ w t (sPerson b n A) G'))) args s 0 0 (zA Γ)) 33 [some (zr 4 w), some (zi (sNewV b n 1 A)), none, some (zi x3)] [] G1 := by
      intro nn
      induction nn with
      | zero => intro x3 G1 A1 h33_0 h33_1 h33_2 h33_3 hm; exact absurd hm (Nat.not_lt_zero _)
      | succ nn ih33 =>
        intro x3 G1 A1 h33_0 h33_1 h33_2 h33_3 hm33
        refine zs_iload_n (pc := 33) C dX3_readPerson_33 rfl ?_
        refine zs_sipush (pc := 34) C dX3_readPerson_34 (by decide) (by decide) ?_
        refine zs_icmp_ge (tgt := 70) (pc := 37) C dX3_readPerson_37 (by decide) (fun h37 => ?_) (fun h37 => ?_)
        · skip
          exact zs_vret (pc := 70) C hr hlk dX3_readPerson_70 ⟨by repeat (first | exact zsm_rf | assumption | refine zsm_C (by decide) ?_ | refine zsm_I (by decide) ?_ | refine zsm_J ?_ | refine zsm_c (by assumption) (by decide) ?_), by have e9 : sPerson b n A = A1 := (by rw [← h33_3]; first | exact dds_e (by omega) _ | (rw [show (700 - x3).toNat = 0 by omega]; rfl)); rw [e9]; exact h33_2⟩
        · skip
          refine zs_aload_n (pc := 40) C dX3_readPerson_40 rfl ?_
          refine zs_geti (r := 407) (pc := 41) C dX3_readPerson_41 w_X3_38 f_4_7 rfl (r_407 0) (fun v41 e41 l41 u41 => ?_)
          try simp only [QC_407 h33_2] at e41
          try subst v41
          refine zs_if_ne (tgt := 70) (pc := 44) C dX3_readPerson_44 (by decide) (fun h44 => ?_) (fun h44 => ?_)
          · skip
            exact zs_vret (pc := 70) C hr hlk dX3_readPerson_70 ⟨by repeat (first | exact zsm_rf | assumption | refine zsm_C (by decide) ?_ | refine zsm_I (by decide) ?_ | refine zsm_J ?_ | refine zsm_c (by assumption) (by decide) ?_), by have e9 : sPerson b n A = A1 := (by rw [← h33_3]; first | exact dds_e (by omega) _ | (rw [show (700 - x3).toNat = 0 by omega]; rfl)); rw [e9]; exact h33_2⟩
          · skip
            refine zs_aload_n (pc := 47) C dX3_readPerson_47 rfl ?_
            refine zs_geti (r := 405) (pc := 48) C dX3_readPerson_48 w_X3_70 f_4_5 rfl (r_405 0) (fun v48 e48 l48 u48 => ?_)
            try simp only [QC_405 h33_2] at e48
            try subst v48
            refine zs_iconst (pc := 51) C dX3_readPerson_51 (by decide) ?_
            refine zs_icmp_ne (tgt := 70) (pc := 52) C dX3_readPerson_52 (by decide) (fun h52 => ?_) (fun h52 => ?_)
            · skip
              exact zs_vret (pc := 70) C hr hlk dX3_readPerson_70 ⟨by repeat (first | exact zsm_rf | assumption | refine zsm_C (by decide) ?_ | refine zsm_I (by decide) ?_ | refine zsm_J ?_ | refine zsm_c (by assumption) (by decide) ?_), by have e9 : sPerson b n A = A1 := (by rw [← h33_3]; first | exact dds_e (by omega) _ | (rw [show (700 - x3).toNat = 0 by omega]; rfl)); rw [e9]; exact h33_2⟩
            · skip
              refine zs_aload_n (pc := 55) C dX3_readPerson_55 rfl ?_
              refine zVv0 (pc := 56) C dX3_readPerson_56 v_X3_51 (c_X3_nextF hX (QN_of (by repeat (first | assumption | apply QCw_407 | apply QCw_408 | apply QCw_406 | apply QCw_2037 | apply QCw_2036 | apply QCw_2038 | apply QCw_2039 | apply QCw_2040 | apply QCw_2041 | apply QCw_2042 | apply QCw_2043 | apply QCw_609 | apply QCw_610 | apply QCw_611 | apply QCw_612 | apply QCw_2016 | apply QCw_2017 | apply QCw_2014 | apply QCw_2015 | apply QCw_206 | apply QCw_207 | apply QCw_410 | apply QCw_411 | apply QCw_412 | apply QCw_413 | apply QCw_2025 | refine QC_g (by decide) ?_ | refine QC_sm (by assumption) (by decide) (by decide) ?_)))) (by decide) (by decide) ⟨Nat.zero_le _, Nat.zero_le _⟩ (Nat.le_of_ble_eq_true rfl) (fun G56 hp56 => ?_)
              obtain ⟨hz56, hq56⟩ := hp56
              have hZ56 := hq56
              refine zs_aload_n (pc := 59) C dX3_readPerson_59 rfl ?_
              refine zs_iload_n (pc := 60) C dX3_readPerson_60 rfl ?_
              refine zVv1 (pc := 61) C dX3_readPerson_61 v_X3_130 (c_X3_readDeedF hX (by repeat (first | assumption | apply QCw_407 | apply QCw_408 | apply QCw_406 | apply QCw_2037 | apply QCw_2036 | apply QCw_2038 | apply QCw_2039 | apply QCw_2040 | apply QCw_2041 | apply QCw_2042 | apply QCw_2043 | apply QCw_609 | apply QCw_610 | apply QCw_611 | apply QCw_612 | apply QCw_2016 | apply QCw_2017 | apply QCw_2014 | apply QCw_2015 | apply QCw_206 | apply QCw_207 | apply QCw_410 | apply QCw_411 | apply QCw_412 | apply QCw_413 | apply QCw_2025 | refine QC_g (by decide) ?_ | refine QC_sm (by assumption) (by decide) (by decide) ?_)) (by omega)) (by decide) (by decide) ⟨Nat.zero_le _, Nat.zero_le _⟩ (Nat.le_of_ble_eq_true rfl) (fun G61 hp61 => ?_)
              obtain ⟨hz61, hq61⟩ := hp61
              have hZ61 := hq61
              first | refine zs_iinc (pc := 64) C dX3_readPerson_64 rfl (by decide) (by omega) ?_ | refine zs_iincF (pc := 64) C dX3_readPerson_64 rfl (by decide) (fun z64 hz641 hz642 => ?_)
              dsimp only [zset, zclr, znone]
              refine zs_goto (tgt := 33) (pc := 67) C dX3_readPerson_67 (by decide) ?_
              exact zs_wk (ih33 _ _ _ (by omega) (by repeat (first | exact zsm_rf | assumption | refine zsm_C (by decide) ?_ | refine zsm_I (by decide) ?_ | refine zsm_J ?_ | refine zsm_c (by assumption) (by decide) ?_)) hZ61 (by rw [← h33_3, show (700 - x3).toNat = (700 - (x3 + 1)).toNat + 1 by omega, sDeeds, if_pos ⟨by omega, by omega⟩]) (by first | omega | (simp only [zuI_1, zuI_2, zuJ_1, zuJ_2, zuJ_3, zuP_1, zuP_2, zuP_3, zuC_1, zuC_2, reduceIte, Nat.reduceEqDiff, false_and, and_false, true_and, and_true, and_self, or_true, true_or, or_false, false_or]; omega))) (zwk_s rfl (zwk_s rfl (zwk_n (zwk_s rfl zwk_0))))
    exact zs_wk (L33 _ _ _ _ (by omega) (by repeat (first | exact zsm_rf | assumption | refine zsm_C (by decide) ?_ | refine zsm_I (by decide) ?_ | refine zsm_J ?_ | refine zsm_c (by assumption) (by decide) ?_)) (show QC b n N Γ w t (sHon b n A) _ from (by unfold sHon; (repeat' split) <;> first | assumption | (exfalso; omega) | exact (by repeat (first | assumption | apply QCw_407 | apply QCw_408 | apply QCw_406 | apply QCw_2037 | apply QCw_2036 | apply QCw_2038 | apply QCw_2039 | apply QCw_2040 | apply QCw_2041 | apply QCw_2042 | apply QCw_2043 | apply QCw_609 | apply QCw_610 | apply QCw_611 | apply QCw_612 | apply QCw_2016 | apply QCw_2017 | apply QCw_2014 | apply QCw_2015 | apply QCw_206 | apply QCw_207 | apply QCw_410 | apply QCw_411 | apply QCw_412 | apply QCw_413 | apply QCw_2025 | refine QC_g (by decide) ?_ | refine QC_sm (by assumption) (by decide) (by decide) ?_)))) rfl (Nat.lt_succ_self _)) (zwk_s rfl (zwk_s rfl (zwk_n (zwk_s rfl zwk_0))))
