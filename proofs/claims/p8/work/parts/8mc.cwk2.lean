set_option maxHeartbeats 4000000 in
set_option maxRecDepth 100000 in
theorem c_X7_ungrindK {l : Launch} {Γ : zΓ} {G : zH} {w t : Nat} {A W : aS}  (hX : zXs Γ) (hZ : QQ Γ w t A W G) (hW : WI A W) (hT : TA A)  : zMet l Γ yX7_ungrind cX7_ungrind 4 none 1 [zr 8 w] G (zpv (fun G' => zsm [510, 2026, 2027, 2028, 2029, 2030, 2031, 2032, 2033, 2034, 2035, 810, 811, 2049, 2050, 2051] G G' ∧ QQ Γ w t A (wUngrind W) G')) := by
  have hI := QQ_t hZ
  have h00 := hW.1
  obtain ⟨w18, w19, w20, w21, w22⟩ := hW.2.2.2.2.2
  refine zMet_of RX7 hX (by decide) rfl (Nat.le_of_ble_eq_true rfl) ?_
  intro p e s m args below meth c C hr hlk
  show Z p l e (zrm 1) s m args below meth c Γ 4 0 0 (MQ below (zQc Γ (zpv (fun G' => zsm [510, 2026, 2027, 2028, 2029, 2030, 2031, 2032, 2033, 2034, 2035, 810, 811, 2049, 2050, 2051] G G' ∧ QQ Γ w t A (wUngrind W) G'))) args s 0 0 (zA Γ)) 0 [some (zr 8 w), none, none, none] [] G
  refine zs_aload_n (pc := 0) C dX7_ungrind_0 rfl ?_
  refine zs_getf (pc := 1) C dX7_ungrind_1 w_X7_12 f_8_1 (by decide) ?_
  refine zs_geti (r := 510) (pc := 4) C dX7_ungrind_4 w_X7_48 f_5_10 rfl (r_510 0) (fun v4 e4 l4 u4 => ?_)
  try simp only [QQ_510 hZ] at e4
  try subst v4
  refine zs_if_gt (tgt := 11) (pc := 7) C dX7_ungrind_7 (by decide) (fun h7 => ?_) (fun h7 => ?_)
  · skip
    have hsk := hW.2.1 (W 0 0 - 1).toNat (by omega)
    obtain ⟨⟨s1, s1b⟩, ⟨s2, s2b⟩, s3, s4, s5, s6, s7, s8, s9, s10⟩ := hsk
    have h1399 := hT.1
    have s14 := hW.2.2.2.2.1 (W 1 (W 0 0 - 1).toNat).toNat (by omega)
    have s12 := WI_L hW (p := W 1 (W 0 0 - 1).toNat) (s := W 2 (W 0 0 - 1).toNat) (by omega) (by omega)
    refine zs_aload_n (pc := 11) C dX7_ungrind_11 rfl ?_
    refine zs_getf (pc := 12) C dX7_ungrind_12 w_X7_12 f_8_1 (by decide) ?_
    refine zs_dupa (pc := 15) C dX7_ungrind_15 ?_
    refine zs_geti (r := 510) (pc := 16) C dX7_ungrind_16 w_X7_48 f_5_10 rfl (r_510 0) (fun v16 e16 l16 u16 => ?_)
    try simp only [QQ_510 hZ] at e16
    try subst v16
    refine zs_iconst (pc := 19) C dX7_ungrind_19 (by decide) ?_
    first | refine zs_isub (pc := 20) C dX7_ungrind_20 (by omega) ?_ | refine zs_isubF (pc := 20) C dX7_ungrind_20 (fun z20 hz201 hz202 => ?_)
    refine zs_puti (r := 510) (pc := 21) C dX7_ungrind_21 w_X7_48 f_5_10 rfl (r_510 0) (by omega) ?_
    refine zs_aload_n (pc := 24) C dX7_ungrind_24 rfl ?_
    refine zs_getf (pc := 25) C dX7_ungrind_25 w_X7_12 f_8_1 (by decide) ?_
    refine zs_geti (r := 510) (pc := 28) C dX7_ungrind_28 w_X7_48 f_5_10 rfl (r_510 0) (fun v28 e28 l28 u28 => ?_)
    try simp only [zuI_1, zuI_2, zuJ_1, zuJ_2, zuJ_3, zuP_1, zuP_2, zuP_3, zuC_1, zuC_2, reduceIte, Nat.reduceEqDiff, false_and, and_false, true_and, and_true, and_self, or_true, true_or, or_false, false_or] at e28
    try simp only [QQ_510 hZ] at e28
    try subst v28
    refine zs_istore_n (pc := 31) C dX7_ungrind_31 (by decide) ?_
    dsimp only [zset, zclr, znone]
    refine zs_aload_n (pc := 32) C dX7_ungrind_32 rfl ?_
    refine zs_getf (pc := 33) C dX7_ungrind_33 w_X7_12 f_8_1 (by decide) ?_
    refine zs_getf (pc := 36) C dX7_ungrind_36 w_X7_144 f_5_0 (by decide) ?_
    refine zs_iload_n (pc := 39) C dX7_ungrind_39 rfl ?_
    refine zs_iald (r := 2026) (pc := 40) C dX7_ungrind_40 a_26 (by decide) (by omega) rfl (r_2026 _) (fun v40 e40 l40 u40 => ?_)
    try simp only [zuI_1, zuI_2, zuJ_1, zuJ_2, zuJ_3, zuP_1, zuP_2, zuP_3, zuC_1, zuC_2, reduceIte, Nat.reduceEqDiff, false_and, and_false, true_and, and_true, and_self, or_true, true_or, or_false, false_or] at e40
    try simp only [QQ_2026 hZ] at e40
    try subst v40
    refine zs_istore_n (pc := 41) C dX7_ungrind_41 (by decide) ?_
    dsimp only [zset, zclr, znone]
    refine zs_aload_n (pc := 42) C dX7_ungrind_42 rfl ?_
    refine zs_getf (pc := 43) C dX7_ungrind_43 w_X7_12 f_8_1 (by decide) ?_
    refine zs_getf (pc := 46) C dX7_ungrind_46 w_X7_154 f_5_1 (by decide) ?_
    refine zs_iload_n (pc := 49) C dX7_ungrind_49 rfl ?_
    refine zs_iald (r := 2027) (pc := 50) C dX7_ungrind_50 a_27 (by decide) (by omega) rfl (r_2027 _) (fun v50 e50 l50 u50 => ?_)
    try simp only [zuI_1, zuI_2, zuJ_1, zuJ_2, zuJ_3, zuP_1, zuP_2, zuP_3, zuC_1, zuC_2, reduceIte, Nat.reduceEqDiff, false_and, and_false, true_and, and_true, and_self, or_true, true_or, or_false, false_or] at e50
    try simp only [QQ_2027 hZ] at e50
    try subst v50
    refine zs_istore_n (pc := 51) C dX7_ungrind_51 (by decide) ?_
    dsimp only [zset, zclr, znone]
    refine zs_aload_n (pc := 52) C dX7_ungrind_52 rfl ?_
    refine zs_dupa (pc := 53) C dX7_ungrind_53 ?_
    refine zs_geti (r := 810) (pc := 54) C dX7_ungrind_54 w_X7_75 f_8_10 rfl (r_810 0) (fun v54 e54 l54 u54 => ?_)
    try simp only [zuI_1, zuI_2, zuJ_1, zuJ_2, zuJ_3, zuP_1, zuP_2, zuP_3, zuC_1, zuC_2, reduceIte, Nat.reduceEqDiff, false_and, and_false, true_and, and_true, and_self, or_true, true_or, or_false, false_or] at e54
    try simp only [QQ_810 hZ] at e54
    try subst v54
    refine zs_aload_n (pc := 57) C dX7_ungrind_57 rfl ?_
    refine zs_getf (pc := 58) C dX7_ungrind_58 w_X7_12 f_8_1 (by decide) ?_
    refine zs_getf (pc := 61) C dX7_ungrind_61 w_X7_174 f_5_3 (by decide) ?_
    refine zs_iload_n (pc := 64) C dX7_ungrind_64 rfl ?_
    refine zs_iald (r := 2029) (pc := 65) C dX7_ungrind_65 a_29 (by decide) (by omega) rfl (r_2029 _) (fun v65 e65 l65 u65 => ?_)
    try simp only [zuI_1, zuI_2, zuJ_1, zuJ_2, zuJ_3, zuP_1, zuP_2, zuP_3, zuC_1, zuC_2, reduceIte, Nat.reduceEqDiff, false_and, and_false, true_and, and_true, and_self, or_true, true_or, or_false, false_or] at e65
    try simp only [QQ_2029 hZ] at e65
    try subst v65
    first | refine zs_iadd (pc := 66) C dX7_ungrind_66 (by omega) ?_ | refine zs_iaddF (pc := 66) C dX7_ungrind_66 (fun z66 hz661 hz662 => ?_)
    refine zs_puti (r := 810) (pc := 67) C dX7_ungrind_67 w_X7_75 f_8_10 rfl (r_810 0) (by omega) ?_
    refine zs_aload_n (pc := 70) C dX7_ungrind_70 rfl ?_
    refine zs_aload_n (pc := 71) C dX7_ungrind_71 rfl ?_
    refine zs_getf (pc := 72) C dX7_ungrind_72 w_X7_12 f_8_1 (by decide) ?_
    refine zs_getf (pc := 75) C dX7_ungrind_75 w_X7_136 f_5_6 (by decide) ?_
    refine zs_iload_n (pc := 78) C dX7_ungrind_78 rfl ?_
    refine zs_iald (r := 2032) (pc := 79) C dX7_ungrind_79 a_32 (by decide) (by omega) rfl (r_2032 _) (fun v79 e79 l79 u79 => ?_)
    try simp only [zuI_1, zuI_2, zuJ_1, zuJ_2, zuJ_3, zuP_1, zuP_2, zuP_3, zuC_1, zuC_2, reduceIte, Nat.reduceEqDiff, false_and, and_false, true_and, and_true, and_self, or_true, true_or, or_false, false_or] at e79
    try simp only [QQ_2032 hZ] at e79
    try subst v79
    refine zs_puti (r := 811) (pc := 80) C dX7_ungrind_80 w_X7_79 f_8_11 rfl (r_811 0) (by omega) ?_
    refine zs_aload_n (pc := 83) C dX7_ungrind_83 rfl ?_
    refine zs_getf (pc := 84) C dX7_ungrind_84 w_X7_25 f_8_4 (by decide) ?_
    refine zs_iload_n (pc := 87) C dX7_ungrind_87 rfl ?_
    refine zs_aload_n (pc := 88) C dX7_ungrind_88 rfl ?_
    refine zs_getf (pc := 89) C dX7_ungrind_89 w_X7_12 f_8_1 (by decide) ?_
    refine zs_getf (pc := 92) C dX7_ungrind_92 w_X7_135 f_5_5 (by decide) ?_
    refine zs_iload_n (pc := 95) C dX7_ungrind_95 rfl ?_
    refine zs_iald (r := 2031) (pc := 96) C dX7_ungrind_96 a_31 (by decide) (by omega) rfl (r_2031 _) (fun v96 e96 l96 u96 => ?_)
    try simp only [zuI_1, zuI_2, zuJ_1, zuJ_2, zuJ_3, zuP_1, zuP_2, zuP_3, zuC_1, zuC_2, reduceIte, Nat.reduceEqDiff, false_and, and_false, true_and, and_true, and_self, or_true, true_or, or_false, false_or] at e96
    try simp only [QQ_2031 hZ] at e96
    try subst v96
    refine zs_iast (r := 2050) (pc := 97) C dX7_ungrind_97 a_50 (by decide) (by omega) rfl (r_2050 _) (by omega) ?_
    refine zs_aload_n (pc := 98) C dX7_ungrind_98 rfl ?_
    refine zs_getf (pc := 99) C dX7_ungrind_99 w_X7_12 f_8_1 (by decide) ?_
    refine zs_iload_n (pc := 102) C dX7_ungrind_102 rfl ?_
    refine zs_iload_n (pc := 103) C dX7_ungrind_103 rfl ?_
    refine zVip2 (pc := 104) C dX7_ungrind_104 v_X7_141 (c_X4_lieByK hX (by repeat (first | assumption | apply QQw_510 | apply QQw_2026 | apply QQw_2027 | apply QQw_2028 | apply QQw_2029 | apply QQw_2030 | apply QQw_2031 | apply QQw_2032 | apply QQw_2033 | apply QQw_2034 | apply QQw_2035 | apply QQw_2048 | apply QQw_2049 | apply QQw_2050 | apply QQw_2051 | apply QQw_2052 | apply QQw_2053 | apply QQw_2054 | apply QQw_809 | apply QQw_810 | apply QQw_811 | apply QQw_812 | apply QQw_813 | apply QQ_J | refine QQ_n (by assumption) ?_ | refine QQ_sm (by assumption) (by decide) (by decide +kernel) ?_)) (by omega)) (by decide) (by decide) ⟨Nat.zero_le _, Nat.zero_le _⟩ (Nat.le_of_ble_eq_true rfl) (fun x104 l104 u104 hp104 => ?_)
    have hq104 := hp104
    try simp only [zuI_1, zuI_2, zuJ_1, zuJ_2, zuJ_3, zuP_1, zuP_2, zuP_3, zuC_1, zuC_2, reduceIte, Nat.reduceEqDiff, false_and, and_false, true_and, and_true, and_self, or_true, true_or, or_false, false_or] at hq104
    have hl104 : x104 = wLie W (W 0 0 - 1) (W 2 (W 0 0 - 1).toNat) := hq104
    refine zs_if_ne (tgt := 127) (pc := 107) C dX7_ungrind_107 (by decide) (fun h107 => ?_) (fun h107 => ?_)
    · skip
      refine zs_aload_n (pc := 127) C dX7_ungrind_127 rfl ?_
      refine zs_getf (pc := 128) C dX7_ungrind_128 w_X7_28 f_8_5 (by decide) ?_
      refine zs_iload_n (pc := 131) C dX7_ungrind_131 rfl ?_
      refine zs_dup2 (pc := 132) C dX7_ungrind_132 ?_
      refine zs_iald (r := 2051) (pc := 133) C dX7_ungrind_133 a_51 (by decide) (by omega) rfl (r_2051 _) (fun v133 e133 l133 u133 => ?_)
      try simp only [zuI_1, zuI_2, zuJ_1, zuJ_2, zuJ_3, zuP_1, zuP_2, zuP_3, zuC_1, zuC_2, reduceIte, Nat.reduceEqDiff, false_and, and_false, true_and, and_true, and_self, or_true, true_or, or_false, false_or] at e133
      try simp only [QQ_2051 hZ] at e133
      try subst v133
      refine zs_iconst (pc := 134) C dX7_ungrind_134 (by decide) ?_
      first | refine zs_isub (pc := 135) C dX7_ungrind_135 (by omega) ?_ | refine zs_isubF (pc := 135) C dX7_ungrind_135 (fun z135 hz1351 hz1352 => ?_)
      refine zs_iast (r := 2051) (pc := 136) C dX7_ungrind_136 a_51 (by decide) (by omega) rfl (r_2051 _) (by omega) ?_
      exact zs_vret (pc := 137) C hr hlk dX7_ungrind_137 ⟨by repeat (first | exact zsm_rf | assumption | refine zsm_C (by decide) ?_ | refine zsm_I (by decide) ?_ | refine zsm_J ?_ | refine zsm_c (by assumption) (by decide) ?_), (by unfold wUngrind wUg1; rw [if_neg (show ¬ W 0 0 ≤ 0 by omega)]; first | (rw [if_pos (show wLie W (W 0 0 - 1) (W 2 (W 0 0 - 1).toNat) = 0 by omega)]; repeat (first | assumption | apply QQw_510 | apply QQw_2026 | apply QQw_2027 | apply QQw_2028 | apply QQw_2029 | apply QQw_2030 | apply QQw_2031 | apply QQw_2032 | apply QQw_2033 | apply QQw_2034 | apply QQw_2035 | apply QQw_2048 | apply QQw_2049 | apply QQw_2050 | apply QQw_2051 | apply QQw_2052 | apply QQw_2053 | apply QQw_2054 | apply QQw_809 | apply QQw_810 | apply QQw_811 | apply QQw_812 | apply QQw_813 | apply QQ_J | refine QQ_n (by assumption) ?_ | refine QQ_sm (by assumption) (by decide) (by decide +kernel) ?_)) | (rw [if_neg (show ¬ wLie W (W 0 0 - 1) (W 2 (W 0 0 - 1).toNat) = 0 by omega)]; repeat (first | assumption | apply QQw_510 | apply QQw_2026 | apply QQw_2027 | apply QQw_2028 | apply QQw_2029 | apply QQw_2030 | apply QQw_2031 | apply QQw_2032 | apply QQw_2033 | apply QQw_2034 | apply QQw_2035 | apply QQw_2048 | apply QQw_2049 | apply QQw_2050 | apply QQw_2051 | apply QQw_2052 | apply QQw_2053 | apply QQw_2054 | apply QQw_809 | apply QQw_810 | apply QQw_811 | apply QQw_812 | apply QQw_813 | apply QQ_J | refine QQ_n (by assumption) ?_ | refine QQ_sm (by assumption) (by decide) (by decide +kernel) ?_)))⟩
    · skip
      refine zs_aload_n (pc := 110) C dX7_ungrind_110 rfl ?_
      refine zs_getf (pc := 111) C dX7_ungrind_111 w_X7_22 f_8_3 (by decide) ?_
      refine zs_iload_n (pc := 114) C dX7_ungrind_114 rfl ?_
      refine zs_iconst (pc := 115) C dX7_ungrind_115 (by decide) ?_
      first | refine zs_imul (pc := 116) C dX7_ungrind_116 (by omega) ?_ | refine zs_imulF (pc := 116) C dX7_ungrind_116 (fun z116 hz1161 hz1162 => ?_)
      refine zs_iload_n (pc := 117) C dX7_ungrind_117 rfl ?_
      first | refine zs_iadd (pc := 118) C dX7_ungrind_118 (by omega) ?_ | refine zs_iaddF (pc := 118) C dX7_ungrind_118 (fun z118 hz1181 hz1182 => ?_)
      refine zs_dup2 (pc := 119) C dX7_ungrind_119 ?_
      refine zs_iald (r := 2049) (pc := 120) C dX7_ungrind_120 a_49 (by decide) (by omega) rfl (r_2049 _) (fun v120 e120 l120 u120 => ?_)
      try simp only [zuI_1, zuI_2, zuJ_1, zuJ_2, zuJ_3, zuP_1, zuP_2, zuP_3, zuC_1, zuC_2, reduceIte, Nat.reduceEqDiff, false_and, and_false, true_and, and_true, and_self, or_true, true_or, or_false, false_or] at e120
      try simp only [QQ_2049 hZ] at e120
      try subst v120
      refine zs_iconst (pc := 121) C dX7_ungrind_121 (by decide) ?_
      first | refine zs_iadd (pc := 122) C dX7_ungrind_122 (by omega) ?_ | refine zs_iaddF (pc := 122) C dX7_ungrind_122 (fun z122 hz1221 hz1222 => ?_)
      refine zs_iast (r := 2049) (pc := 123) C dX7_ungrind_123 a_49 (by decide) (by omega) rfl (r_2049 _) (by omega) ?_
      refine zs_goto (tgt := 137) (pc := 124) C dX7_ungrind_124 (by decide) ?_
      exact zs_vret (pc := 137) C hr hlk dX7_ungrind_137 ⟨by repeat (first | exact zsm_rf | assumption | refine zsm_C (by decide) ?_ | refine zsm_I (by decide) ?_ | refine zsm_J ?_ | refine zsm_c (by assumption) (by decide) ?_), (by unfold wUngrind wUg1; rw [if_neg (show ¬ W 0 0 ≤ 0 by omega)]; first | (rw [if_pos (show wLie W (W 0 0 - 1) (W 2 (W 0 0 - 1).toNat) = 0 by omega)]; repeat (first | assumption | apply QQw_510 | apply QQw_2026 | apply QQw_2027 | apply QQw_2028 | apply QQw_2029 | apply QQw_2030 | apply QQw_2031 | apply QQw_2032 | apply QQw_2033 | apply QQw_2034 | apply QQw_2035 | apply QQw_2048 | apply QQw_2049 | apply QQw_2050 | apply QQw_2051 | apply QQw_2052 | apply QQw_2053 | apply QQw_2054 | apply QQw_809 | apply QQw_810 | apply QQw_811 | apply QQw_812 | apply QQw_813 | apply QQ_J | refine QQ_n (by assumption) ?_ | refine QQ_sm (by assumption) (by decide) (by decide +kernel) ?_)) | (rw [if_neg (show ¬ wLie W (W 0 0 - 1) (W 2 (W 0 0 - 1).toNat) = 0 by omega)]; repeat (first | assumption | apply QQw_510 | apply QQw_2026 | apply QQw_2027 | apply QQw_2028 | apply QQw_2029 | apply QQw_2030 | apply QQw_2031 | apply QQw_2032 | apply QQw_2033 | apply QQw_2034 | apply QQw_2035 | apply QQw_2048 | apply QQw_2049 | apply QQw_2050 | apply QQw_2051 | apply QQw_2052 | apply QQw_2053 | apply QQw_2054 | apply QQw_809 | apply QQw_810 | apply QQw_811 | apply QQw_812 | apply QQw_813 | apply QQ_J | refine QQ_n (by assumption) ?_ | refine QQ_sm (by assumption) (by decide) (by decide +kernel) ?_)))⟩
  · skip
    exact zs_vret (pc := 10) C hr hlk dX7_ungrind_10 ⟨by repeat (first | exact zsm_rf | assumption | refine zsm_C (by decide) ?_ | refine zsm_I (by decide) ?_ | refine zsm_J ?_ | refine zsm_c (by assumption) (by decide) ?_), by unfold wUngrind; rw [if_pos (by omega)]; exact hZ⟩
