set_option maxHeartbeats 4000000 in
set_option maxRecDepth 100000 in
theorem c_X7_copyFromD {l : Launch} {Γ : zΓ} {G : zH} {w : Nat} {b : Nat} (hX : zXs Γ)  : zMet l Γ yX7_copyFrom cX7_copyFrom 2 none 2 [zr 8 w, zr 8 b] G (zpv (fun G' => zsn [510, 2026, 2027, 2028, 2029, 2030, 2031, 2032, 2033, 2034, 2035, 2048, 2049, 2050, 2051, 2052, 2053, 809, 810, 811, 812, 813] G G' ∧ (G'.1 809 w 0 = G.1 809 b 0 ∧ (∀ a9 : Nat, a9 ≠ w → G'.1 809 a9 0 = G.1 809 a9 0)))) := by
  refine zMet_of RX7 hX (by decide) rfl (Nat.le_of_ble_eq_true rfl) ?_
  intro p e s m args below meth c C hr hlk
  show Z p l e (zrm 2) s m args below meth c Γ 2 0 0 (MQ below (zQc Γ (zpv (fun G' => zsn [510, 2026, 2027, 2028, 2029, 2030, 2031, 2032, 2033, 2034, 2035, 2048, 2049, 2050, 2051, 2052, 2053, 809, 810, 811, 812, 813] G G' ∧ (G'.1 809 w 0 = G.1 809 b 0 ∧ (∀ a9 : Nat, a9 ≠ w → G'.1 809 a9 0 = G.1 809 a9 0))))) args s 0 0 (zA Γ)) 0 [some (zr 8 w), some (zr 8 b)] [] G
  refine zs_aload_n (pc := 0) C dX7_copyFrom_0 rfl ?_
  refine zs_aload_n (pc := 1) C dX7_copyFrom_1 rfl ?_
  refine zs_getd (r := 800) (pc := 2) C dX7_copyFrom_2 w_X7_40 f_8_0 (by decide) rfl (fun v2 e2 t2 => ?_)
  subst e2
  refine zs_putd (r := 800) (pc := 5) C dX7_copyFrom_5 w_X7_40 f_8_0 (by decide) rfl ?_
  refine zs_aload_n (pc := 8) C dX7_copyFrom_8 rfl ?_
  refine zs_getf (pc := 9) C dX7_copyFrom_9 w_X7_12 f_8_1 (by decide) ?_
  refine zs_aload_n (pc := 12) C dX7_copyFrom_12 rfl ?_
  refine zs_getf (pc := 13) C dX7_copyFrom_13 w_X7_12 f_8_1 (by decide) ?_
  refine zVv1 (pc := 16) C dX7_copyFrom_16 v_X7_91 (c_X4_copyFrom hX ) (by decide) (by decide) ⟨Nat.zero_le _, Nat.zero_le _⟩ (Nat.le_of_ble_eq_true rfl) (fun G16 hp16 => ?_)
  obtain ⟨hz16, hq16⟩ := hp16
  try simp only [zuI_1, zuI_2, zuJ_1, zuJ_2, zuJ_3, zuP_1, zuP_2, zuP_3, zuC_1, zuC_2, reduceIte, Nat.reduceEqDiff, false_and, and_false, true_and, and_true, and_self, or_true, true_or, or_false, false_or] at hq16
  have k9 : ∀ a9 : Nat, G16.1 809 a9 0 = G.1 809 a9 0 := fun a9 => (by first | (have q := zsm_at hz16 809 a9 0 (by decide); simp only [zuI_1, zuI_2, zuJ_1, zuJ_2, zuJ_3, zuP_1, zuP_2, zuP_3, zuC_1, zuC_2, reduceIte, Nat.reduceEqDiff, false_and, and_false, true_and, and_true, and_self, or_true, true_or, or_false, false_or] at q; exact q) | (have q := zsn_at hz16 809 a9 0 (by decide); simp only [zuI_1, zuI_2, zuJ_1, zuJ_2, zuJ_3, zuP_1, zuP_2, zuP_3, zuC_1, zuC_2, reduceIte, Nat.reduceEqDiff, false_and, and_false, true_and, and_true, and_self, or_true, true_or, or_false, false_or] at q; exact q) | exact zsm_at hz16 809 a9 0 (by decide) | exact zsn_at hz16 809 a9 0 (by decide))
  refine zs_aload_n (pc := 19) C dX7_copyFrom_19 rfl ?_
  refine zs_getf (pc := 20) C dX7_copyFrom_20 w_X7_18 f_8_2 (by decide) ?_
  refine zs_iconst (pc := 23) C dX7_copyFrom_23 (by decide) ?_
  refine zs_aload_n (pc := 24) C dX7_copyFrom_24 rfl ?_
  refine zs_getf (pc := 25) C dX7_copyFrom_25 w_X7_18 f_8_2 (by decide) ?_
  refine zs_iconst (pc := 28) C dX7_copyFrom_28 (by decide) ?_
  refine zs_bipush (pc := 29) C dX7_copyFrom_29 (by decide) (by decide) ?_
  refine zs_acopy (r0 := 2048) (r1 := 2048) (pc := 31) C dX7_copyFrom_31 ac_X7_57 a_48 a_48 (by decide) (by decide) (by omega) (by omega) (by omega) (by omega) (by omega) rfl rfl (fun i j => Or.inl (by rw [r_2048, r_2048]; decide)) (by decide) (Nat.le_of_ble_eq_true rfl) ?_
  refine zs_aload_n (pc := 34) C dX7_copyFrom_34 rfl ?_
  refine zs_getf (pc := 35) C dX7_copyFrom_35 w_X7_22 f_8_3 (by decide) ?_
  refine zs_iconst (pc := 38) C dX7_copyFrom_38 (by decide) ?_
  refine zs_aload_n (pc := 39) C dX7_copyFrom_39 rfl ?_
  refine zs_getf (pc := 40) C dX7_copyFrom_40 w_X7_22 f_8_3 (by decide) ?_
  refine zs_iconst (pc := 43) C dX7_copyFrom_43 (by decide) ?_
  refine zs_bipush (pc := 44) C dX7_copyFrom_44 (by decide) (by decide) ?_
  refine zs_acopy (r0 := 2049) (r1 := 2049) (pc := 46) C dX7_copyFrom_46 ac_X7_57 a_49 a_49 (by decide) (by decide) (by omega) (by omega) (by omega) (by omega) (by omega) rfl rfl (fun i j => Or.inl (by rw [r_2049, r_2049]; decide)) (by decide) (Nat.le_of_ble_eq_true rfl) ?_
  refine zs_aload_n (pc := 49) C dX7_copyFrom_49 rfl ?_
  refine zs_getf (pc := 50) C dX7_copyFrom_50 w_X7_25 f_8_4 (by decide) ?_
  refine zs_iconst (pc := 53) C dX7_copyFrom_53 (by decide) ?_
  refine zs_aload_n (pc := 54) C dX7_copyFrom_54 rfl ?_
  refine zs_getf (pc := 55) C dX7_copyFrom_55 w_X7_25 f_8_4 (by decide) ?_
  refine zs_iconst (pc := 58) C dX7_copyFrom_58 (by decide) ?_
  refine zs_iconst (pc := 59) C dX7_copyFrom_59 (by decide) ?_
  refine zs_acopy (r0 := 2050) (r1 := 2050) (pc := 60) C dX7_copyFrom_60 ac_X7_57 a_50 a_50 (by decide) (by decide) (by omega) (by omega) (by omega) (by omega) (by omega) rfl rfl (fun i j => Or.inl (by rw [r_2050, r_2050]; decide)) (by decide) (Nat.le_of_ble_eq_true rfl) ?_
  refine zs_aload_n (pc := 63) C dX7_copyFrom_63 rfl ?_
  refine zs_getf (pc := 64) C dX7_copyFrom_64 w_X7_28 f_8_5 (by decide) ?_
  refine zs_iconst (pc := 67) C dX7_copyFrom_67 (by decide) ?_
  refine zs_aload_n (pc := 68) C dX7_copyFrom_68 rfl ?_
  refine zs_getf (pc := 69) C dX7_copyFrom_69 w_X7_28 f_8_5 (by decide) ?_
  refine zs_iconst (pc := 72) C dX7_copyFrom_72 (by decide) ?_
  refine zs_iconst (pc := 73) C dX7_copyFrom_73 (by decide) ?_
  refine zs_acopy (r0 := 2051) (r1 := 2051) (pc := 74) C dX7_copyFrom_74 ac_X7_57 a_51 a_51 (by decide) (by decide) (by omega) (by omega) (by omega) (by omega) (by omega) rfl rfl (fun i j => Or.inl (by rw [r_2051, r_2051]; decide)) (by decide) (Nat.le_of_ble_eq_true rfl) ?_
  refine zs_aload_n (pc := 77) C dX7_copyFrom_77 rfl ?_
  refine zs_getf (pc := 78) C dX7_copyFrom_78 w_X7_31 f_8_6 (by decide) ?_
  refine zs_iconst (pc := 81) C dX7_copyFrom_81 (by decide) ?_
  refine zs_aload_n (pc := 82) C dX7_copyFrom_82 rfl ?_
  refine zs_getf (pc := 83) C dX7_copyFrom_83 w_X7_31 f_8_6 (by decide) ?_
  refine zs_iconst (pc := 86) C dX7_copyFrom_86 (by decide) ?_
  refine zs_iconst (pc := 87) C dX7_copyFrom_87 (by decide) ?_
  refine zs_acopy (r0 := 2052) (r1 := 2052) (pc := 88) C dX7_copyFrom_88 ac_X7_57 a_52 a_52 (by decide) (by decide) (by omega) (by omega) (by omega) (by omega) (by omega) rfl rfl (fun i j => Or.inl (by rw [r_2052, r_2052]; decide)) (by decide) (Nat.le_of_ble_eq_true rfl) ?_
  refine zs_aload_n (pc := 91) C dX7_copyFrom_91 rfl ?_
  refine zs_getf (pc := 92) C dX7_copyFrom_92 w_X7_34 f_8_7 (by decide) ?_
  refine zs_iconst (pc := 95) C dX7_copyFrom_95 (by decide) ?_
  refine zs_aload_n (pc := 96) C dX7_copyFrom_96 rfl ?_
  refine zs_getf (pc := 97) C dX7_copyFrom_97 w_X7_34 f_8_7 (by decide) ?_
  refine zs_iconst (pc := 100) C dX7_copyFrom_100 (by decide) ?_
  refine zs_iconst (pc := 101) C dX7_copyFrom_101 (by decide) ?_
  refine zs_acopy (r0 := 2053) (r1 := 2053) (pc := 102) C dX7_copyFrom_102 ac_X7_57 a_53 a_53 (by decide) (by decide) (by omega) (by omega) (by omega) (by omega) (by omega) rfl rfl (fun i j => Or.inl (by rw [r_2053, r_2053]; decide)) (by decide) (Nat.le_of_ble_eq_true rfl) ?_
  refine zs_aload_n (pc := 105) C dX7_copyFrom_105 rfl ?_
  refine zs_aload_n (pc := 106) C dX7_copyFrom_106 rfl ?_
  refine zs_geti (r := 809) (pc := 107) C dX7_copyFrom_107 w_X7_69 f_8_9 rfl (r_809 0) (fun v107 e107 l107 u107 => ?_)
  try simp only [zuI_1, zuI_2, zuJ_1, zuJ_2, zuJ_3, zuP_1, zuP_2, zuP_3, zuC_1, zuC_2, reduceIte, Nat.reduceEqDiff, false_and, and_false, true_and, and_true, and_self, or_true, true_or, or_false, false_or] at e107
  refine zs_puti (r := 809) (pc := 110) C dX7_copyFrom_110 w_X7_69 f_8_9 rfl (r_809 0) (by omega) ?_
  refine zs_aload_n (pc := 113) C dX7_copyFrom_113 rfl ?_
  refine zs_aload_n (pc := 114) C dX7_copyFrom_114 rfl ?_
  refine zs_geti (r := 810) (pc := 115) C dX7_copyFrom_115 w_X7_75 f_8_10 rfl (r_810 0) (fun v115 e115 l115 u115 => ?_)
  try simp only [zuI_1, zuI_2, zuJ_1, zuJ_2, zuJ_3, zuP_1, zuP_2, zuP_3, zuC_1, zuC_2, reduceIte, Nat.reduceEqDiff, false_and, and_false, true_and, and_true, and_self, or_true, true_or, or_false, false_or] at e115
  refine zs_puti (r := 810) (pc := 118) C dX7_copyFrom_118 w_X7_75 f_8_10 rfl (r_810 0) (by omega) ?_
  refine zs_aload_n (pc := 121) C dX7_copyFrom_121 rfl ?_
  refine zs_aload_n (pc := 122) C dX7_copyFrom_122 rfl ?_
  refine zs_geti (r := 811) (pc := 123) C dX7_copyFrom_123 w_X7_79 f_8_11 rfl (r_811 0) (fun v123 e123 l123 u123 => ?_)
  try simp only [zuI_1, zuI_2, zuJ_1, zuJ_2, zuJ_3, zuP_1, zuP_2, zuP_3, zuC_1, zuC_2, reduceIte, Nat.reduceEqDiff, false_and, and_false, true_and, and_true, and_self, or_true, true_or, or_false, false_or] at e123
  refine zs_puti (r := 811) (pc := 126) C dX7_copyFrom_126 w_X7_79 f_8_11 rfl (r_811 0) (by omega) ?_
  refine zs_aload_n (pc := 129) C dX7_copyFrom_129 rfl ?_
  refine zs_aload_n (pc := 130) C dX7_copyFrom_130 rfl ?_
  refine zs_geti (r := 812) (pc := 131) C dX7_copyFrom_131 w_X7_85 f_8_12 rfl (r_812 0) (fun v131 e131 l131 u131 => ?_)
  try simp only [zuI_1, zuI_2, zuJ_1, zuJ_2, zuJ_3, zuP_1, zuP_2, zuP_3, zuC_1, zuC_2, reduceIte, Nat.reduceEqDiff, false_and, and_false, true_and, and_true, and_self, or_true, true_or, or_false, false_or] at e131
  refine zs_puti (r := 812) (pc := 134) C dX7_copyFrom_134 w_X7_85 f_8_12 rfl (r_812 0) (by omega) ?_
  refine zs_aload_n (pc := 137) C dX7_copyFrom_137 rfl ?_
  refine zs_aload_n (pc := 138) C dX7_copyFrom_138 rfl ?_
  refine zs_geti (r := 813) (pc := 139) C dX7_copyFrom_139 w_X7_88 f_8_13 rfl (r_813 0) (fun v139 e139 l139 u139 => ?_)
  try simp only [zuI_1, zuI_2, zuJ_1, zuJ_2, zuJ_3, zuP_1, zuP_2, zuP_3, zuC_1, zuC_2, reduceIte, Nat.reduceEqDiff, false_and, and_false, true_and, and_true, and_self, or_true, true_or, or_false, false_or] at e139
  refine zs_puti (r := 813) (pc := 142) C dX7_copyFrom_142 w_X7_88 f_8_13 rfl (r_813 0) (by omega) ?_
  exact zs_vret (pc := 145) C hr hlk dX7_copyFrom_145 ⟨by repeat (first | exact zsn_rf | assumption | refine zsn_C (by decide) ?_ | refine zsn_I (by decide) ?_ | refine zsn_J ?_ | refine zsn_P ?_ | refine zsn_m (by assumption) (by decide) ?_ | refine zsn_c (by assumption) (by decide) ?_), (by have kb := k9 b; refine ⟨?_, fun a9 h9 => ?_⟩; (simp only [zuI_1, zuI_2, zuJ_1, zuJ_2, zuJ_3, zuP_1, zuP_2, zuP_3, zuC_1, zuC_2, reduceIte, Nat.reduceEqDiff, false_and, and_false, true_and, and_true, and_self, or_true, true_or, or_false, false_or]; first | omega | exact kb); (simp only [zuI_1, zuI_2, zuJ_1, zuJ_2, zuJ_3, zuP_1, zuP_2, zuP_3, zuC_1, zuC_2, reduceIte, Nat.reduceEqDiff, false_and, and_false, true_and, and_true, and_self, or_true, true_or, or_false, false_or]; rw [if_neg h9]; exact k9 a9))⟩

set_option maxHeartbeats 4000000 in
set_option maxRecDepth 100000 in
theorem c_X7_beginD {l : Launch} {Γ : zΓ} {G : zH} {w : Nat} {b : Nat} (hX : zXs Γ)  : zMet l Γ yX7_begin cX7_begin 2 none 1 [zr 8 w, zr 6 b] G (zpv (fun G' => zsn [510, 2048, 2049, 2050, 2051, 2052, 2053, 809, 810, 811, 812, 813] G G' ∧ (G'.1 809 w 0 = 0 ∧ (∀ a9 : Nat, a9 ≠ w → G'.1 809 a9 0 = G.1 809 a9 0)))) := by
  refine zMet_of RX7 hX (by decide) rfl (Nat.le_of_ble_eq_true rfl) ?_
  intro p e s m args below meth c C hr hlk
  show Z p l e (zrm 1) s m args below meth c Γ 2 0 0 (MQ below (zQc Γ (zpv (fun G' => zsn [510, 2048, 2049, 2050, 2051, 2052, 2053, 809, 810, 811, 812, 813] G G' ∧ (G'.1 809 w 0 = 0 ∧ (∀ a9 : Nat, a9 ≠ w → G'.1 809 a9 0 = G.1 809 a9 0))))) args s 0 0 (zA Γ)) 0 [some (zr 8 w), some (zr 6 b)] [] G
  refine zs_aload_n (pc := 0) C dX7_begin_0 rfl ?_
  refine zs_aload_n (pc := 1) C dX7_begin_1 rfl ?_
  refine zs_putd (r := 800) (pc := 2) C dX7_begin_2 w_X7_40 f_8_0 (by decide) rfl ?_
  refine zs_aload_n (pc := 5) C dX7_begin_5 rfl ?_
  refine zs_getf (pc := 6) C dX7_begin_6 w_X7_12 f_8_1 (by decide) ?_
  refine zs_iconst (pc := 9) C dX7_begin_9 (by decide) ?_
  refine zs_puti (r := 510) (pc := 10) C dX7_begin_10 w_X7_48 f_5_10 rfl (r_510 0) (by omega) ?_
  refine zs_aload_n (pc := 13) C dX7_begin_13 rfl ?_
  refine zs_getf (pc := 14) C dX7_begin_14 w_X7_52 f_6_5 (by decide) ?_
  refine zs_iconst (pc := 17) C dX7_begin_17 (by decide) ?_
  refine zs_aload_n (pc := 18) C dX7_begin_18 rfl ?_
  refine zs_getf (pc := 19) C dX7_begin_19 w_X7_18 f_8_2 (by decide) ?_
  refine zs_iconst (pc := 22) C dX7_begin_22 (by decide) ?_
  refine zs_bipush (pc := 23) C dX7_begin_23 (by decide) (by decide) ?_
  refine zs_acopy (r0 := 2040) (r1 := 2048) (pc := 25) C dX7_begin_25 ac_X7_57 a_40 a_48 (by decide) (by decide) (by omega) (by omega) (by omega) (by omega) (by omega) rfl rfl (fun i j => Or.inl (by rw [r_2040, r_2048]; decide)) (by decide) (Nat.le_of_ble_eq_true rfl) ?_
  refine zs_aload_n (pc := 28) C dX7_begin_28 rfl ?_
  refine zs_getf (pc := 29) C dX7_begin_29 w_X7_52 f_6_5 (by decide) ?_
  refine zs_iconst (pc := 32) C dX7_begin_32 (by decide) ?_
  refine zs_aload_n (pc := 33) C dX7_begin_33 rfl ?_
  refine zs_getf (pc := 34) C dX7_begin_34 w_X7_22 f_8_3 (by decide) ?_
  refine zs_iconst (pc := 37) C dX7_begin_37 (by decide) ?_
  refine zs_bipush (pc := 38) C dX7_begin_38 (by decide) (by decide) ?_
  refine zs_acopy (r0 := 2040) (r1 := 2049) (pc := 40) C dX7_begin_40 ac_X7_57 a_40 a_49 (by decide) (by decide) (by omega) (by omega) (by omega) (by omega) (by omega) rfl rfl (fun i j => Or.inl (by rw [r_2040, r_2049]; decide)) (by decide) (Nat.le_of_ble_eq_true rfl) ?_
  refine zs_aload_n (pc := 43) C dX7_begin_43 rfl ?_
  refine zs_getf (pc := 44) C dX7_begin_44 w_X7_25 f_8_4 (by decide) ?_
  refine zs_iconst (pc := 47) C dX7_begin_47 (by decide) ?_
  refine zSv2 (pc := 48) C dX7_begin_48 s_X7_63 (c_J7_fill_53178F hX a_50 (by decide) (by decide) (fun i => by rw [r_2050]; decide)) (by decide) ⟨Nat.zero_le _, Nat.zero_le _⟩ (Nat.le_of_ble_eq_true rfl) (fun G48 hp48 => ?_)
  obtain ⟨hz48, hq48⟩ := hp48
  try simp only [zuI_1, zuI_2, zuJ_1, zuJ_2, zuJ_3, zuP_1, zuP_2, zuP_3, zuC_1, zuC_2, reduceIte, Nat.reduceEqDiff, false_and, and_false, true_and, and_true, and_self, or_true, true_or, or_false, false_or] at hq48
  refine zs_aload_n (pc := 51) C dX7_begin_51 rfl ?_
  refine zs_getf (pc := 52) C dX7_begin_52 w_X7_28 f_8_5 (by decide) ?_
  refine zs_iconst (pc := 55) C dX7_begin_55 (by decide) ?_
  refine zSv2 (pc := 56) C dX7_begin_56 s_X7_63 (c_J7_fill_53178F hX a_51 (by decide) (by decide) (fun i => by rw [r_2051]; decide)) (by decide) ⟨Nat.zero_le _, Nat.zero_le _⟩ (Nat.le_of_ble_eq_true rfl) (fun G56 hp56 => ?_)
  obtain ⟨hz56, hq56⟩ := hp56
  refine zs_aload_n (pc := 59) C dX7_begin_59 rfl ?_
  refine zs_getf (pc := 60) C dX7_begin_60 w_X7_31 f_8_6 (by decide) ?_
  refine zs_iconst (pc := 63) C dX7_begin_63 (by decide) ?_
  refine zSv2 (pc := 64) C dX7_begin_64 s_X7_63 (c_J7_fill_53178F hX a_52 (by decide) (by decide) (fun i => by rw [r_2052]; decide)) (by decide) ⟨Nat.zero_le _, Nat.zero_le _⟩ (Nat.le_of_ble_eq_true rfl) (fun G64 hp64 => ?_)
  obtain ⟨hz64, hq64⟩ := hp64
  refine zs_aload_n (pc := 67) C dX7_begin_67 rfl ?_
  refine zs_getf (pc := 68) C dX7_begin_68 w_X7_34 f_8_7 (by decide) ?_
  refine zs_iconst (pc := 71) C dX7_begin_71 (by decide) ?_
  refine zSv2 (pc := 72) C dX7_begin_72 s_X7_63 (c_J7_fill_53178F hX a_53 (by decide) (by decide) (fun i => by rw [r_2053]; decide)) (by decide) ⟨Nat.zero_le _, Nat.zero_le _⟩ (Nat.le_of_ble_eq_true rfl) (fun G72 hp72 => ?_)
  obtain ⟨hz72, hq72⟩ := hp72
  refine zs_aload_n (pc := 75) C dX7_begin_75 rfl ?_
  refine zs_iconst (pc := 76) C dX7_begin_76 (by decide) ?_
  refine zs_puti (r := 809) (pc := 77) C dX7_begin_77 w_X7_69 f_8_9 rfl (r_809 0) (by omega) ?_
  refine zs_aload_n (pc := 80) C dX7_begin_80 rfl ?_
  refine zs_aload_n (pc := 81) C dX7_begin_81 rfl ?_
  refine zs_geti (r := 609) (pc := 82) C dX7_begin_82 w_X7_72 f_6_9 rfl (r_609 0) (fun v82 e82 l82 u82 => ?_)
  try simp only [zuI_1, zuI_2, zuJ_1, zuJ_2, zuJ_3, zuP_1, zuP_2, zuP_3, zuC_1, zuC_2, reduceIte, Nat.reduceEqDiff, false_and, and_false, true_and, and_true, and_self, or_true, true_or, or_false, false_or] at e82
  refine zs_puti (r := 810) (pc := 85) C dX7_begin_85 w_X7_75 f_8_10 rfl (r_810 0) (by omega) ?_
  refine zs_aload_n (pc := 88) C dX7_begin_88 rfl ?_
  refine zs_aload_n (pc := 89) C dX7_begin_89 rfl ?_
  refine zs_geti (r := 611) (pc := 90) C dX7_begin_90 w_X7_76 f_6_11 rfl (r_611 0) (fun v90 e90 l90 u90 => ?_)
  try simp only [zuI_1, zuI_2, zuJ_1, zuJ_2, zuJ_3, zuP_1, zuP_2, zuP_3, zuC_1, zuC_2, reduceIte, Nat.reduceEqDiff, false_and, and_false, true_and, and_true, and_self, or_true, true_or, or_false, false_or] at e90
  refine zs_puti (r := 811) (pc := 93) C dX7_begin_93 w_X7_79 f_8_11 rfl (r_811 0) (by omega) ?_
  refine zs_aload_n (pc := 96) C dX7_begin_96 rfl ?_
  refine zs_aload_n (pc := 97) C dX7_begin_97 rfl ?_
  refine zs_geti (r := 612) (pc := 98) C dX7_begin_98 w_X7_82 f_6_12 rfl (r_612 0) (fun v98 e98 l98 u98 => ?_)
  try simp only [zuI_1, zuI_2, zuJ_1, zuJ_2, zuJ_3, zuP_1, zuP_2, zuP_3, zuC_1, zuC_2, reduceIte, Nat.reduceEqDiff, false_and, and_false, true_and, and_true, and_self, or_true, true_or, or_false, false_or] at e98
  refine zs_puti (r := 812) (pc := 101) C dX7_begin_101 w_X7_85 f_8_12 rfl (r_812 0) (by omega) ?_
  refine zs_aload_n (pc := 104) C dX7_begin_104 rfl ?_
  refine zs_iconst (pc := 105) C dX7_begin_105 (by decide) ?_
  refine zs_puti (r := 813) (pc := 106) C dX7_begin_106 w_X7_88 f_8_13 rfl (r_813 0) (by omega) ?_
  exact zs_vret (pc := 109) C hr hlk dX7_begin_109 ⟨by repeat (first | exact zsn_rf | assumption | refine zsn_C (by decide) ?_ | refine zsn_I (by decide) ?_ | refine zsn_J ?_ | refine zsn_P ?_ | refine zsn_m (by assumption) (by decide) ?_ | refine zsn_c (by assumption) (by decide) ?_), (by have fr : zsn [510, 2048, 2049, 2050, 2051, 2052, 2053, 810, 811, 812, 813] G G72 := (by repeat (first | exact zsn_rf | assumption | refine zsn_C (by decide) ?_ | refine zsn_I (by decide) ?_ | refine zsn_J ?_ | refine zsn_P ?_ | refine zsn_m (by assumption) (by decide) ?_ | refine zsn_c (by assumption) (by decide) ?_)); refine ⟨?_, fun a9 h9 => ?_⟩; (simp only [zuI_1, zuI_2, zuJ_1, zuJ_2, zuJ_3, zuP_1, zuP_2, zuP_3, zuC_1, zuC_2, reduceIte, Nat.reduceEqDiff, false_and, and_false, true_and, and_true, and_self, or_true, true_or, or_false, false_or]); (simp only [zuI_1, zuI_2, zuJ_1, zuJ_2, zuJ_3, zuP_1, zuP_2, zuP_3, zuC_1, zuC_2, reduceIte, Nat.reduceEqDiff, false_and, and_false, true_and, and_true, and_self, or_true, true_or, or_false, false_or]; rw [if_neg h9]; exact zsn_at fr 809 a9 0 (by decide)))⟩

set_option maxHeartbeats 4000000 in
set_option maxRecDepth 100000 in
theorem c_X8_areDaysD {l : Launch} {Γ : zΓ} {G : zH} {w : Nat} {k : Int} (hX : zXs Γ) (hd : 0 ≤ G.1 809 (Γ.2.1 w 4) 0 ∧ G.1 809 (Γ.2.1 w 4) 0 ≤ 100) : zMet l Γ yX8_areDays cX8_areDays 2 (some .boolean) 0 [zr 9 w, zi k] G (zpi (fun x G' => G' = G ∧ ((x = 0 ∨ x = 1) ∧ (x = 1 ↔ 0 ≤ k ∧ G.1 809 (Γ.2.1 w 4) 0 + k ≤ 100)))) := by
  refine zMet_of RX8 hX (by decide) rfl (Nat.le_of_ble_eq_true rfl) ?_
  intro p e s m args below meth c C hr hlk
  show Z p l e (zrm 0) s m args below meth c Γ 2 0 0 (MQ below (zQc Γ (zpi (fun x G' => G' = G ∧ ((x = 0 ∨ x = 1) ∧ (x = 1 ↔ 0 ≤ k ∧ G.1 809 (Γ.2.1 w 4) 0 + k ≤ 100))))) args s 0 0 (zA Γ)) 0 [some (zr 9 w), some (zi k)] [] G
  refine zs_loc 1 rfl (fun ha1 hb1 => ?_)
  refine zs_iload_n (pc := 0) C dX8_areDays_0 rfl ?_
  refine zs_if_lt (tgt := 22) (pc := 1) C dX8_areDays_1 (by decide) (fun h1 => ?_) (fun h1 => ?_)
  · skip
    refine zs_iconst (pc := 22) C dX8_areDays_22 (by decide) ?_
    exact zs_zret (pc := 23) C hr hlk dX8_areDays_23 (by omega) ⟨rfl, (by refine ⟨by omega, ?_⟩; constructor <;> intro h9 <;> omega)⟩
  · skip
    refine zs_iload_n (pc := 4) C dX8_areDays_4 rfl ?_
    refine zs_bipush (pc := 5) C dX8_areDays_5 (by decide) (by decide) ?_
    refine zs_aload_n (pc := 7) C dX8_areDays_7 rfl ?_
    refine zs_getf (pc := 8) C dX8_areDays_8 w_X8_34 f_9_4 (by decide) ?_
    refine zs_geti (r := 809) (pc := 11) C dX8_areDays_11 w_X8_221 f_8_9 rfl (r_809 0) (fun v11 e11 l11 u11 => ?_)
    first | refine zs_isub (pc := 14) C dX8_areDays_14 (by omega) ?_ | refine zs_isubF (pc := 14) C dX8_areDays_14 (fun z14 hz141 hz142 => ?_)
    refine zs_icmp_gt (tgt := 22) (pc := 15) C dX8_areDays_15 (by decide) (fun h15 => ?_) (fun h15 => ?_)
    · skip
      refine zs_iconst (pc := 22) C dX8_areDays_22 (by decide) ?_
      exact zs_zret (pc := 23) C hr hlk dX8_areDays_23 (by omega) ⟨rfl, (by refine ⟨by omega, ?_⟩; constructor <;> intro h9 <;> omega)⟩
    · skip
      refine zs_iconst (pc := 18) C dX8_areDays_18 (by decide) ?_
      refine zs_goto (tgt := 23) (pc := 19) C dX8_areDays_19 (by decide) ?_
      exact zs_zret (pc := 23) C hr hlk dX8_areDays_23 (by omega) ⟨rfl, (by refine ⟨by omega, ?_⟩; constructor <;> intro h9 <;> omega)⟩

set_option maxHeartbeats 4000000 in
set_option maxRecDepth 100000 in
theorem c_X8_daysD {l : Launch} {Γ : zΓ} {G : zH} {w : Nat} {k : Int} (hX : zXs Γ) (hd : 0 ≤ G.1 809 (Γ.2.1 w 4) 0 ∧ G.1 809 (Γ.2.1 w 4) 0 ≤ 100) : zMet l Γ yX8_days cX8_days 3 (some .int) 5 [zr 9 w, zi k] G (zpi (fun x G' => zsn [510, 2026, 2027, 2028, 2029, 2030, 2031, 2032, 2033, 2034, 2035, 810, 811, 2049, 2050, 2051, 2054, 2053, 809, 910, 2020] G G' ∧ ((0 ≤ k ∧ G.1 809 (Γ.2.1 w 4) 0 + k ≤ 100 → x = G.1 809 (Γ.2.1 w 4) 0 + k ∧ G'.1 809 (Γ.2.1 w 4) 0 = G.1 809 (Γ.2.1 w 4) 0 + k) ∧ (¬ (0 ≤ k ∧ G.1 809 (Γ.2.1 w 4) 0 + k ≤ 100) → x = -1 ∧ G'.1 809 (Γ.2.1 w 4) 0 = G.1 809 (Γ.2.1 w 4) 0) ∧ (∀ a9 : Nat, a9 ≠ (Γ.2.1 w 4) → G'.1 809 a9 0 = G.1 809 a9 0)))) := by
  refine zMet_of RX8 hX (by decide) rfl (Nat.le_of_ble_eq_true rfl) ?_
  intro p e s m args below meth c C hr hlk
  show Z p l e (zrm 5) s m args below meth c Γ 3 0 0 (MQ below (zQc Γ (zpi (fun x G' => zsn [510, 2026, 2027, 2028, 2029, 2030, 2031, 2032, 2033, 2034, 2035, 810, 811, 2049, 2050, 2051, 2054, 2053, 809, 910, 2020] G G' ∧ ((0 ≤ k ∧ G.1 809 (Γ.2.1 w 4) 0 + k ≤ 100 → x = G.1 809 (Γ.2.1 w 4) 0 + k ∧ G'.1 809 (Γ.2.1 w 4) 0 = G.1 809 (Γ.2.1 w 4) 0 + k) ∧ (¬ (0 ≤ k ∧ G.1 809 (Γ.2.1 w 4) 0 + k ≤ 100) → x = -1 ∧ G'.1 809 (Γ.2.1 w 4) 0 = G.1 809 (Γ.2.1 w 4) 0) ∧ (∀ a9 : Nat, a9 ≠ (Γ.2.1 w 4) → G'.1 809 a9 0 = G.1 809 a9 0))))) args s 0 0 (zA Γ)) 0 [some (zr 9 w), some (zi k), none] [] G
  refine zs_loc 1 rfl (fun ha1 hb1 => ?_)
  refine zs_aload_n (pc := 0) C dX8_days_0 rfl ?_
  refine zs_iload_n (pc := 1) C dX8_days_1 rfl ?_
  refine zVip1 (pc := 2) C dX8_days_2 v_X8_236 (c_X8_areDaysD hX (by omega)) (by decide) (by decide) ⟨Nat.zero_le _, Nat.zero_le _⟩ (Nat.le_of_ble_eq_true rfl) (fun x2 l2 u2 hp2 => ?_)
  have hq2 := hp2
  refine zs_if_ne (tgt := 10) (pc := 5) C dX8_days_5 (by decide) (fun h5 => ?_) (fun h5 => ?_)
  · skip
    refine zs_iconst (pc := 10) C dX8_days_10 (by decide) ?_
    refine zs_istore_n (pc := 11) C dX8_days_11 (by decide) ?_
    dsimp only [zset, zclr, znone]
    have L12 : ∀ (nn : Nat) (x2 : Int) (G1 : zH), (0 ≤ x2 ∧ (x2 ≤ k ∨ x2 = 0)) → (zsn [510, 2026, 2027, 2028, 2029, 2030, 2031, 2032, 2033, 2034, 2035, 810, 811, 2049, 2050, 2051, 2054, 2053, 809, 910, 2020] G G1) → (G1.1 809 (Γ.2.1 w 4) 0 = G.1 809 (Γ.2.1 w 4) 0 + x2) → ((∀ a9 : Nat, a9 ≠ (Γ.2.1 w 4) → G1.1 809 a9 0 = G.1 809 a9 0)) → (k - x2).toNat < nn → Z p l e (zrm 5) s m args below meth c Γ 3 0 0 (MQ below (zQc Γ (zpi (fun x G' => zsn [510, 2026, 2027, 2028, 2029, 2030, 2031, 2032, 2033, 2034, 2035, 810, 811, 2049, 2050, 2051, 2054, 2053, 809, 910, 2020] G G' ∧ ((0 ≤ k ∧ G.1 809 (Γ.2.1 w 4) 0 + k ≤ 100 → x = G.1 809 (Γ.2.1 w 4) 0 + k ∧ G'.1 809 (Γ.2.1 w 4) 0 = G.1 809 (Γ.2.1 w 4) 0 + k) ∧ (¬ (0 ≤ k ∧ G.1 809 (Γ.2.1 w 4) 0 + k ≤ 100) → x = -1 ∧ G'.1 809 (Γ.2.1 w 4) 0 = G.1 809 (Γ.2.1 w 4) 0) ∧ (∀ a9 : Nat, a9 ≠ (Γ.2.1 w 4) → G'.1 809 a9 0 = G.1 809 a9 0))))) args s 0 0 (zA Γ)) 12 [some (zr 9 w), some (zi k), some (zi x2)] [] G1 := by
      intro nn
      induction nn with
      | zero => intro x2 G1 h12_0 h12_1 h12_2 h12_3 hm; exact absurd hm (Nat.not_lt_zero _)
      | succ nn ih12 =>
        intro x2 G1 h12_0 h12_1 h12_2 h12_3 hm12
        refine zs_iload_n (pc := 12) C dX8_days_12 rfl ?_
        refine zs_iload_n (pc := 13) C dX8_days_13 rfl ?_
        refine zs_icmp_ge (tgt := 52) (pc := 14) C dX8_days_14 (by decide) (fun h14 => ?_) (fun h14 => ?_)
        · skip
          refine zs_iload_n (pc := 52) C dX8_days_52 rfl ?_
          refine zs_if_le (tgt := 68) (pc := 53) C dX8_days_53 (by decide) (fun h53 => ?_) (fun h53 => ?_)
          · skip
            refine zs_aload_n (pc := 68) C dX8_days_68 rfl ?_
            refine zs_getf (pc := 69) C dX8_days_69 w_X8_34 f_9_4 (by decide) ?_
            refine zs_geti (r := 809) (pc := 72) C dX8_days_72 w_X8_221 f_8_9 rfl (r_809 0) (fun v72 e72 l72 u72 => ?_)
            exact zs_iret (pc := 75) C hr hlk dX8_days_75 ⟨by repeat (first | exact zsn_rf | assumption | refine zsn_C (by decide) ?_ | refine zsn_I (by decide) ?_ | refine zsn_J ?_ | refine zsn_P ?_ | refine zsn_m (by assumption) (by decide) ?_ | refine zsn_c (by assumption) (by decide) ?_), (by refine ⟨fun h1 => ?_, fun h1 => ?_, fun a9 h9 => ?_⟩ <;> first | (exfalso; omega) | (refine ⟨?_, ?_⟩ <;> (first | omega | (exfalso; omega) | (simp only [zuI_1, zuI_2, zuJ_1, zuJ_2, zuJ_3, zuP_1, zuP_2, zuP_3, zuC_1, zuC_2, reduceIte, Nat.reduceEqDiff, false_and, and_false, true_and, and_true, and_self, or_true, true_or, or_false, false_or]; done) | (simp only [zuI_1, zuI_2, zuJ_1, zuJ_2, zuJ_3, zuP_1, zuP_2, zuP_3, zuC_1, zuC_2, reduceIte, Nat.reduceEqDiff, false_and, and_false, true_and, and_true, and_self, or_true, true_or, or_false, false_or]; omega))) | rfl | exact h12_3 a9 h9 | (have q1 := h12_3 a9 h9; have q2 := zsm_at hz65 809 a9 0 (by decide); simp only [zuI_1, zuI_2, zuJ_1, zuJ_2, zuJ_3, zuP_1, zuP_2, zuP_3, zuC_1, zuC_2, reduceIte, Nat.reduceEqDiff, false_and, and_false, true_and, and_true, and_self, or_true, true_or, or_false, false_or] at q2; omega))⟩
          · skip
            refine zs_aload_n (pc := 56) C dX8_days_56 rfl ?_
            refine zs_iconst (pc := 57) C dX8_days_57 (by decide) ?_
            refine zs_puti (r := 910) (pc := 58) C dX8_days_58 w_X8_94 f_9_10 rfl (r_910 0) (by omega) ?_
            refine zs_aload_n (pc := 61) C dX8_days_61 rfl ?_
            refine zs_getf (pc := 62) C dX8_days_62 w_X8_49 f_9_7 (by decide) ?_
            refine zVv0 (pc := 65) C dX8_days_65 v_X8_97 (c_X2_forget hX ) (by decide) (by decide) ⟨Nat.zero_le _, Nat.zero_le _⟩ (Nat.le_of_ble_eq_true rfl) (fun G65 hp65 => ?_)
            obtain ⟨hz65, hq65⟩ := hp65
            try simp only [zuI_1, zuI_2, zuJ_1, zuJ_2, zuJ_3, zuP_1, zuP_2, zuP_3, zuC_1, zuC_2, reduceIte, Nat.reduceEqDiff, false_and, and_false, true_and, and_true, and_self, or_true, true_or, or_false, false_or] at hq65
            have tr65_809 := zsm_at hz65 809 (Γ.2.1 w 4) 0 (by decide)
            try simp only [zuI_1, zuI_2, zuJ_1, zuJ_2, zuJ_3, zuP_1, zuP_2, zuP_3, zuC_1, zuC_2, reduceIte, Nat.reduceEqDiff, false_and, and_false, true_and, and_true, and_self, or_true, true_or, or_false, false_or] at tr65_809
            refine zs_aload_n (pc := 68) C dX8_days_68 rfl ?_
            refine zs_getf (pc := 69) C dX8_days_69 w_X8_34 f_9_4 (by decide) ?_
            refine zs_geti (r := 809) (pc := 72) C dX8_days_72 w_X8_221 f_8_9 rfl (r_809 0) (fun v72 e72 l72 u72 => ?_)
            exact zs_iret (pc := 75) C hr hlk dX8_days_75 ⟨by repeat (first | exact zsn_rf | assumption | refine zsn_C (by decide) ?_ | refine zsn_I (by decide) ?_ | refine zsn_J ?_ | refine zsn_P ?_ | refine zsn_m (by assumption) (by decide) ?_ | refine zsn_c (by assumption) (by decide) ?_), (by refine ⟨fun h1 => ?_, fun h1 => ?_, fun a9 h9 => ?_⟩ <;> first | (exfalso; omega) | (refine ⟨?_, ?_⟩ <;> (first | omega | (exfalso; omega) | (simp only [zuI_1, zuI_2, zuJ_1, zuJ_2, zuJ_3, zuP_1, zuP_2, zuP_3, zuC_1, zuC_2, reduceIte, Nat.reduceEqDiff, false_and, and_false, true_and, and_true, and_self, or_true, true_or, or_false, false_or]; done) | (simp only [zuI_1, zuI_2, zuJ_1, zuJ_2, zuJ_3, zuP_1, zuP_2, zuP_3, zuC_1, zuC_2, reduceIte, Nat.reduceEqDiff, false_and, and_false, true_and, and_true, and_self, or_true, true_or, or_false, false_or]; omega))) | rfl | exact h12_3 a9 h9 | (have q1 := h12_3 a9 h9; have q2 := zsm_at hz65 809 a9 0 (by decide); simp only [zuI_1, zuI_2, zuJ_1, zuJ_2, zuJ_3, zuP_1, zuP_2, zuP_3, zuC_1, zuC_2, reduceIte, Nat.reduceEqDiff, false_and, and_false, true_and, and_true, and_self, or_true, true_or, or_false, false_or] at q2; omega))⟩
        · skip
          refine zs_aload_n (pc := 17) C dX8_days_17 rfl ?_
          refine zs_getf (pc := 18) C dX8_days_18 w_X8_34 f_9_4 (by decide) ?_
          refine zs_iconst (pc := 21) C dX8_days_21 (by decide) ?_
          refine zs_iconst (pc := 22) C dX8_days_22 (by decide) ?_
          refine zVv2 (pc := 23) C dX8_days_23 v_X8_239 (c_X7_confessOfDay hX ) (by decide) (by decide) ⟨Nat.zero_le _, Nat.zero_le _⟩ (Nat.le_of_ble_eq_true rfl) (fun G23 hp23 => ?_)
          obtain ⟨hz23, hq23⟩ := hp23
          have tr23_809 := zsm_at hz23 809 (Γ.2.1 w 4) 0 (by decide)
          try simp only [zuI_1, zuI_2, zuJ_1, zuJ_2, zuJ_3, zuP_1, zuP_2, zuP_3, zuC_1, zuC_2, reduceIte, Nat.reduceEqDiff, false_and, and_false, true_and, and_true, and_self, or_true, true_or, or_false, false_or] at tr23_809
          refine zs_aload_n (pc := 26) C dX8_days_26 rfl ?_
          refine zs_getf (pc := 27) C dX8_days_27 w_X8_34 f_9_4 (by decide) ?_
          refine zVv0 (pc := 30) C dX8_days_30 v_X8_242 (c_X7_bakeOfDay hX ) (by decide) (by decide) ⟨Nat.zero_le _, Nat.zero_le _⟩ (Nat.le_of_ble_eq_true rfl) (fun G30 hp30 => ?_)
          obtain ⟨hz30, hq30⟩ := hp30
          have tr30_809 := zsm_at hz30 809 (Γ.2.1 w 4) 0 (by decide)
          try simp only [zuI_1, zuI_2, zuJ_1, zuJ_2, zuJ_3, zuP_1, zuP_2, zuP_3, zuC_1, zuC_2, reduceIte, Nat.reduceEqDiff, false_and, and_false, true_and, and_true, and_self, or_true, true_or, or_false, false_or] at tr30_809
          refine zs_aload_n (pc := 33) C dX8_days_33 rfl ?_
          refine zs_getf (pc := 34) C dX8_days_34 w_X8_34 f_9_4 (by decide) ?_
          refine zs_dupa (pc := 37) C dX8_days_37 ?_
          refine zs_geti (r := 809) (pc := 38) C dX8_days_38 w_X8_221 f_8_9 rfl (r_809 0) (fun v38 e38 l38 u38 => ?_)
          refine zs_iconst (pc := 41) C dX8_days_41 (by decide) ?_
          first | refine zs_iadd (pc := 42) C dX8_days_42 (by omega) ?_ | refine zs_iaddF (pc := 42) C dX8_days_42 (fun z42 hz421 hz422 => ?_)
          refine zs_puti (r := 809) (pc := 43) C dX8_days_43 w_X8_221 f_8_9 rfl (r_809 0) (by omega) ?_
          first | refine zs_iinc (pc := 46) C dX8_days_46 rfl (by decide) (by omega) ?_ | refine zs_iincF (pc := 46) C dX8_days_46 rfl (by decide) (fun z46 hz461 hz462 => ?_)
          dsimp only [zset, zclr, znone]
          refine zs_goto (tgt := 12) (pc := 49) C dX8_days_49 (by decide) ?_
          exact zs_wk (ih12 _ _ (by omega) (by repeat (first | exact zsn_rf | assumption | refine zsn_C (by decide) ?_ | refine zsn_I (by decide) ?_ | refine zsn_J ?_ | refine zsn_P ?_ | refine zsn_m (by assumption) (by decide) ?_ | refine zsn_c (by assumption) (by decide) ?_)) (by first | omega | (exfalso; omega) | (simp only [zuI_1, zuI_2, zuJ_1, zuJ_2, zuJ_3, zuP_1, zuP_2, zuP_3, zuC_1, zuC_2, reduceIte, Nat.reduceEqDiff, false_and, and_false, true_and, and_true, and_self, or_true, true_or, or_false, false_or]; done) | (simp only [zuI_1, zuI_2, zuJ_1, zuJ_2, zuJ_3, zuP_1, zuP_2, zuP_3, zuC_1, zuC_2, reduceIte, Nat.reduceEqDiff, false_and, and_false, true_and, and_true, and_self, or_true, true_or, or_false, false_or]; omega)) (fun a9 h9 => by simp only [zuI_1, zuI_2, zuJ_1, zuJ_2, zuJ_3, zuP_1, zuP_2, zuP_3, zuC_1, zuC_2, reduceIte, Nat.reduceEqDiff, false_and, and_false, true_and, and_true, and_self, or_true, true_or, or_false, false_or]; rw [if_neg h9]; have q1 := zsm_at hz30 809 a9 0 (by decide); have q2 := zsm_at hz23 809 a9 0 (by decide); have q3 := h12_3 a9 h9; omega) (by first | omega | (simp only [zuI_1, zuI_2, zuJ_1, zuJ_2, zuJ_3, zuP_1, zuP_2, zuP_3, zuC_1, zuC_2, reduceIte, Nat.reduceEqDiff, false_and, and_false, true_and, and_true, and_self, or_true, true_or, or_false, false_or]; omega))) (zwk_s rfl (zwk_s rfl (zwk_s rfl zwk_0)))
    exact zs_wk (L12 _ _ _ (by omega) (by repeat (first | exact zsn_rf | assumption | refine zsn_C (by decide) ?_ | refine zsn_I (by decide) ?_ | refine zsn_J ?_ | refine zsn_P ?_ | refine zsn_m (by assumption) (by decide) ?_ | refine zsn_c (by assumption) (by decide) ?_)) (by omega) (fun a9 h9 => rfl) (Nat.lt_succ_self _)) (zwk_s rfl (zwk_s rfl (zwk_s rfl zwk_0)))
  · skip
    refine zs_iconst (pc := 8) C dX8_days_8 (by decide) ?_
    exact zs_iret (pc := 9) C hr hlk dX8_days_9 ⟨by repeat (first | exact zsn_rf | assumption | refine zsn_C (by decide) ?_ | refine zsn_I (by decide) ?_ | refine zsn_J ?_ | refine zsn_P ?_ | refine zsn_m (by assumption) (by decide) ?_ | refine zsn_c (by assumption) (by decide) ?_), (by refine ⟨fun h1 => ?_, fun h1 => ?_, fun a9 h9 => ?_⟩ <;> first | (exfalso; omega) | (refine ⟨?_, ?_⟩ <;> (first | omega | (exfalso; omega) | (simp only [zuI_1, zuI_2, zuJ_1, zuJ_2, zuJ_3, zuP_1, zuP_2, zuP_3, zuC_1, zuC_2, reduceIte, Nat.reduceEqDiff, false_and, and_false, true_and, and_true, and_self, or_true, true_or, or_false, false_or]; done) | (simp only [zuI_1, zuI_2, zuJ_1, zuJ_2, zuJ_3, zuP_1, zuP_2, zuP_3, zuC_1, zuC_2, reduceIte, Nat.reduceEqDiff, false_and, and_false, true_and, and_true, and_self, or_true, true_or, or_false, false_or]; omega))) | rfl | exact h12_3 a9 h9 | (have q1 := h12_3 a9 h9; have q2 := zsm_at hz65 809 a9 0 (by decide); simp only [zuI_1, zuI_2, zuJ_1, zuJ_2, zuJ_3, zuP_1, zuP_2, zuP_3, zuC_1, zuC_2, reduceIte, Nat.reduceEqDiff, false_and, and_false, true_and, and_true, and_self, or_true, true_or, or_false, false_or] at q2; omega))⟩

set_option maxHeartbeats 4000000 in
set_option maxRecDepth 100000 in
theorem c_X8_keepD {l : Launch} {Γ : zΓ} {G : zH} {w : Nat}  (hX : zXs Γ) (hx : (Γ.2.1 w 4) ≠ (Γ.2.1 w 5)) : zMet l Γ yX8_keep cX8_keep 1 (some .int) 3 [zr 9 w] G (zpi (fun x G' => zsn [510, 2026, 2027, 2028, 2029, 2030, 2031, 2032, 2033, 2034, 2035, 2048, 2049, 2050, 2051, 2052, 2053, 809, 810, 811, 812, 813, 911] G G' ∧ (x = G.1 809 (Γ.2.1 w 4) 0 ∧ G'.1 809 (Γ.2.1 w 4) 0 = G.1 809 (Γ.2.1 w 4) 0 ∧ G'.1 809 (Γ.2.1 w 5) 0 = G.1 809 (Γ.2.1 w 4) 0 ∧ G'.1 911 w 0 = 1))) := by
  refine zMet_of RX8 hX (by decide) rfl (Nat.le_of_ble_eq_true rfl) ?_
  intro p e s m args below meth c C hr hlk
  show Z p l e (zrm 3) s m args below meth c Γ 1 0 0 (MQ below (zQc Γ (zpi (fun x G' => zsn [510, 2026, 2027, 2028, 2029, 2030, 2031, 2032, 2033, 2034, 2035, 2048, 2049, 2050, 2051, 2052, 2053, 809, 810, 811, 812, 813, 911] G G' ∧ (x = G.1 809 (Γ.2.1 w 4) 0 ∧ G'.1 809 (Γ.2.1 w 4) 0 = G.1 809 (Γ.2.1 w 4) 0 ∧ G'.1 809 (Γ.2.1 w 5) 0 = G.1 809 (Γ.2.1 w 4) 0 ∧ G'.1 911 w 0 = 1)))) args s 0 0 (zA Γ)) 0 [some (zr 9 w)] [] G
  refine zs_aload_n (pc := 0) C dX8_keep_0 rfl ?_
  refine zs_getf (pc := 1) C dX8_keep_1 w_X8_38 f_9_5 (by decide) ?_
  refine zs_aload_n (pc := 4) C dX8_keep_4 rfl ?_
  refine zs_getf (pc := 5) C dX8_keep_5 w_X8_34 f_9_4 (by decide) ?_
  refine zVv1 (pc := 8) C dX8_keep_8 v_X8_288 (c_X7_copyFromD hX ) (by decide) (by decide) ⟨Nat.zero_le _, Nat.zero_le _⟩ (Nat.le_of_ble_eq_true rfl) (fun G8 hp8 => ?_)
  obtain ⟨hz8, hq8⟩ := hp8
  have hn8 := hq8.2 (Γ.2.1 w 4) hx
  have hn9 := hq8.1
  refine zs_aload_n (pc := 11) C dX8_keep_11 rfl ?_
  refine zs_iconst (pc := 12) C dX8_keep_12 (by decide) ?_
  refine zs_putz (r := 911) (pc := 13) C dX8_keep_13 w_X8_90 f_9_11 rfl (r_911 0) (by omega) (by omega) ?_
  refine zs_aload_n (pc := 16) C dX8_keep_16 rfl ?_
  refine zs_getf (pc := 17) C dX8_keep_17 w_X8_34 f_9_4 (by decide) ?_
  refine zs_geti (r := 809) (pc := 20) C dX8_keep_20 w_X8_221 f_8_9 rfl (r_809 0) (fun v20 e20 l20 u20 => ?_)
  try simp only [zuI_1, zuI_2, zuJ_1, zuJ_2, zuJ_3, zuP_1, zuP_2, zuP_3, zuC_1, zuC_2, reduceIte, Nat.reduceEqDiff, false_and, and_false, true_and, and_true, and_self, or_true, true_or, or_false, false_or] at e20
  exact zs_iret (pc := 23) C hr hlk dX8_keep_23 ⟨by repeat (first | exact zsn_rf | assumption | refine zsn_C (by decide) ?_ | refine zsn_I (by decide) ?_ | refine zsn_J ?_ | refine zsn_P ?_ | refine zsn_m (by assumption) (by decide) ?_ | refine zsn_c (by assumption) (by decide) ?_), (by refine ⟨?_, ?_, ?_, ?_⟩ <;> (first | omega | (exfalso; omega) | (simp only [zuI_1, zuI_2, zuJ_1, zuJ_2, zuJ_3, zuP_1, zuP_2, zuP_3, zuC_1, zuC_2, reduceIte, Nat.reduceEqDiff, false_and, and_false, true_and, and_true, and_self, or_true, true_or, or_false, false_or]; done) | (simp only [zuI_1, zuI_2, zuJ_1, zuJ_2, zuJ_3, zuP_1, zuP_2, zuP_3, zuC_1, zuC_2, reduceIte, Nat.reduceEqDiff, false_and, and_false, true_and, and_true, and_self, or_true, true_or, or_false, false_or]; omega)))⟩

set_option maxHeartbeats 4000000 in
set_option maxRecDepth 100000 in
theorem c_X8_backD {l : Launch} {Γ : zΓ} {G : zH} {w : Nat}  (hX : zXs Γ) (hx : (Γ.2.1 w 4) ≠ (Γ.2.1 w 5)) : zMet l Γ yX8_back cX8_back 1 (some .int) 3 [zr 9 w] G (zpi (fun x G' => zsn [510, 2026, 2027, 2028, 2029, 2030, 2031, 2032, 2033, 2034, 2035, 2048, 2049, 2050, 2051, 2052, 2053, 809, 810, 811, 812, 813, 910, 2020] G G' ∧ ((G.1 911 w 0 = 0 → x = -1 ∧ G'.1 809 (Γ.2.1 w 4) 0 = G.1 809 (Γ.2.1 w 4) 0 ∧ G'.1 809 (Γ.2.1 w 5) 0 = G.1 809 (Γ.2.1 w 5) 0) ∧ (G.1 911 w 0 ≠ 0 → x = G.1 809 (Γ.2.1 w 5) 0 ∧ G'.1 809 (Γ.2.1 w 4) 0 = G.1 809 (Γ.2.1 w 5) 0 ∧ G'.1 809 (Γ.2.1 w 5) 0 = G.1 809 (Γ.2.1 w 5) 0)))) := by
  refine zMet_of RX8 hX (by decide) rfl (Nat.le_of_ble_eq_true rfl) ?_
  intro p e s m args below meth c C hr hlk
  show Z p l e (zrm 3) s m args below meth c Γ 1 0 0 (MQ below (zQc Γ (zpi (fun x G' => zsn [510, 2026, 2027, 2028, 2029, 2030, 2031, 2032, 2033, 2034, 2035, 2048, 2049, 2050, 2051, 2052, 2053, 809, 810, 811, 812, 813, 910, 2020] G G' ∧ ((G.1 911 w 0 = 0 → x = -1 ∧ G'.1 809 (Γ.2.1 w 4) 0 = G.1 809 (Γ.2.1 w 4) 0 ∧ G'.1 809 (Γ.2.1 w 5) 0 = G.1 809 (Γ.2.1 w 5) 0) ∧ (G.1 911 w 0 ≠ 0 → x = G.1 809 (Γ.2.1 w 5) 0 ∧ G'.1 809 (Γ.2.1 w 4) 0 = G.1 809 (Γ.2.1 w 5) 0 ∧ G'.1 809 (Γ.2.1 w 5) 0 = G.1 809 (Γ.2.1 w 5) 0))))) args s 0 0 (zA Γ)) 0 [some (zr 9 w)] [] G
  refine zs_aload_n (pc := 0) C dX8_back_0 rfl ?_
  refine zs_getz (r := 911) (pc := 1) C dX8_back_1 w_X8_90 f_9_11 rfl (r_911 0) (fun v1 e1 l1 u1 => ?_)
  refine zs_if_ne (tgt := 9) (pc := 4) C dX8_back_4 (by decide) (fun h4 => ?_) (fun h4 => ?_)
  · skip
    refine zs_aload_n (pc := 9) C dX8_back_9 rfl ?_
    refine zs_getf (pc := 10) C dX8_back_10 w_X8_34 f_9_4 (by decide) ?_
    refine zs_aload_n (pc := 13) C dX8_back_13 rfl ?_
    refine zs_getf (pc := 14) C dX8_back_14 w_X8_38 f_9_5 (by decide) ?_
    refine zVv1 (pc := 17) C dX8_back_17 v_X8_288 (c_X7_copyFromD hX ) (by decide) (by decide) ⟨Nat.zero_le _, Nat.zero_le _⟩ (Nat.le_of_ble_eq_true rfl) (fun G17 hp17 => ?_)
    obtain ⟨hz17, hq17⟩ := hp17
    have hn8 := hq17.2 (Γ.2.1 w 5) (fun q => hx q.symm)
    have hn9 := hq17.1
    refine zs_aload_n (pc := 20) C dX8_back_20 rfl ?_
    refine zs_iconst (pc := 21) C dX8_back_21 (by decide) ?_
    refine zs_puti (r := 910) (pc := 22) C dX8_back_22 w_X8_94 f_9_10 rfl (r_910 0) (by omega) ?_
    refine zs_aload_n (pc := 25) C dX8_back_25 rfl ?_
    refine zs_getf (pc := 26) C dX8_back_26 w_X8_49 f_9_7 (by decide) ?_
    refine zVv0 (pc := 29) C dX8_back_29 v_X8_97 (c_X2_forget hX ) (by decide) (by decide) ⟨Nat.zero_le _, Nat.zero_le _⟩ (Nat.le_of_ble_eq_true rfl) (fun G29 hp29 => ?_)
    obtain ⟨hz29, hq29⟩ := hp29
    try simp only [zuI_1, zuI_2, zuJ_1, zuJ_2, zuJ_3, zuP_1, zuP_2, zuP_3, zuC_1, zuC_2, reduceIte, Nat.reduceEqDiff, false_and, and_false, true_and, and_true, and_self, or_true, true_or, or_false, false_or] at hq29
    have y4 := zsm_at hz29 809 (Γ.2.1 w 4) 0 (by decide)
    have y5 := zsm_at hz29 809 (Γ.2.1 w 5) 0 (by decide)
    simp only [zuI_1, zuI_2, zuJ_1, zuJ_2, zuJ_3, zuP_1, zuP_2, zuP_3, zuC_1, zuC_2, reduceIte, Nat.reduceEqDiff, false_and, and_false, true_and, and_true, and_self, or_true, true_or, or_false, false_or] at y4 y5
    refine zs_aload_n (pc := 32) C dX8_back_32 rfl ?_
    refine zs_getf (pc := 33) C dX8_back_33 w_X8_34 f_9_4 (by decide) ?_
    refine zs_geti (r := 809) (pc := 36) C dX8_back_36 w_X8_221 f_8_9 rfl (r_809 0) (fun v36 e36 l36 u36 => ?_)
    exact zs_iret (pc := 39) C hr hlk dX8_back_39 ⟨by repeat (first | exact zsn_rf | assumption | refine zsn_C (by decide) ?_ | refine zsn_I (by decide) ?_ | refine zsn_J ?_ | refine zsn_P ?_ | refine zsn_m (by assumption) (by decide) ?_ | refine zsn_c (by assumption) (by decide) ?_), (by refine ⟨fun h1 => ?_, fun h1 => ?_⟩ <;> first | (exfalso; omega) | (refine ⟨?_, ?_, ?_⟩ <;> (first | omega | (exfalso; omega) | (simp only [zuI_1, zuI_2, zuJ_1, zuJ_2, zuJ_3, zuP_1, zuP_2, zuP_3, zuC_1, zuC_2, reduceIte, Nat.reduceEqDiff, false_and, and_false, true_and, and_true, and_self, or_true, true_or, or_false, false_or]; done) | (simp only [zuI_1, zuI_2, zuJ_1, zuJ_2, zuJ_3, zuP_1, zuP_2, zuP_3, zuC_1, zuC_2, reduceIte, Nat.reduceEqDiff, false_and, and_false, true_and, and_true, and_self, or_true, true_or, or_false, false_or]; omega))))⟩
  · skip
    refine zs_iconst (pc := 7) C dX8_back_7 (by decide) ?_
    exact zs_iret (pc := 8) C hr hlk dX8_back_8 ⟨by repeat (first | exact zsn_rf | assumption | refine zsn_C (by decide) ?_ | refine zsn_I (by decide) ?_ | refine zsn_J ?_ | refine zsn_P ?_ | refine zsn_m (by assumption) (by decide) ?_ | refine zsn_c (by assumption) (by decide) ?_), (by refine ⟨fun h1 => ?_, fun h1 => ?_⟩ <;> first | (exfalso; omega) | (refine ⟨?_, ?_, ?_⟩ <;> (first | omega | (exfalso; omega) | (simp only [zuI_1, zuI_2, zuJ_1, zuJ_2, zuJ_3, zuP_1, zuP_2, zuP_3, zuC_1, zuC_2, reduceIte, Nat.reduceEqDiff, false_and, and_false, true_and, and_true, and_self, or_true, true_or, or_false, false_or]; done) | (simp only [zuI_1, zuI_2, zuJ_1, zuJ_2, zuJ_3, zuP_1, zuP_2, zuP_3, zuC_1, zuC_2, reduceIte, Nat.reduceEqDiff, false_and, and_false, true_and, and_true, and_self, or_true, true_or, or_false, false_or]; omega))))⟩

set_option maxHeartbeats 4000000 in
set_option maxRecDepth 100000 in
theorem c_X8_flourOfRunE {l : Launch} {Γ : zΓ} {G : zH} {w : Nat} {k i0 a b : Int} (hX : zXs Γ)  : zMet l Γ yX8_flourOfRun cX8_flourOfRun 6 (some .int) 5 [zr 9 w, zi k, zi i0, zi a, zi b] G (zpi (fun x G' => zsn [510, 2026, 2027, 2028, 2029, 2030, 2031, 2032, 2033, 2034, 2035, 2048, 2049, 2050, 2051, 2052, 2053, 809, 810, 811, 812, 813] G G' ∧ (∀ a9 : Nat, a9 ≠ (Γ.2.1 w 6) → G'.1 809 a9 0 = G.1 809 a9 0))) := by
  refine zMet_of RX8 hX (by decide) rfl (Nat.le_of_ble_eq_true rfl) ?_
  intro p e s m args below meth c C hr hlk
  show Z p l e (zrm 5) s m args below meth c Γ 6 0 0 (MQ below (zQc Γ (zpi (fun x G' => zsn [510, 2026, 2027, 2028, 2029, 2030, 2031, 2032, 2033, 2034, 2035, 2048, 2049, 2050, 2051, 2052, 2053, 809, 810, 811, 812, 813] G G' ∧ (∀ a9 : Nat, a9 ≠ (Γ.2.1 w 6) → G'.1 809 a9 0 = G.1 809 a9 0)))) args s 0 0 (zA Γ)) 0 [some (zr 9 w), some (zi k), some (zi i0), some (zi a), some (zi b), none] [] G
  refine zs_loc 1 rfl (fun ha1 hb1 => ?_)
  refine zs_loc 2 rfl (fun ha2 hb2 => ?_)
  refine zs_loc 3 rfl (fun ha3 hb3 => ?_)
  refine zs_loc 4 rfl (fun ha4 hb4 => ?_)
  refine zs_aload_n (pc := 0) C dX8_flourOfRun_0 rfl ?_
  refine zs_getf (pc := 1) C dX8_flourOfRun_1 w_X8_41 f_9_6 (by decide) ?_
  refine zs_aload_n (pc := 4) C dX8_flourOfRun_4 rfl ?_
  refine zs_getf (pc := 5) C dX8_flourOfRun_5 w_X8_34 f_9_4 (by decide) ?_
  refine zVv1 (pc := 8) C dX8_flourOfRun_8 v_X8_288 (c_X7_copyFromD hX ) (by decide) (by decide) ⟨Nat.zero_le _, Nat.zero_le _⟩ (Nat.le_of_ble_eq_true rfl) (fun G8 hp8 => ?_)
  obtain ⟨hz8, hq8⟩ := hp8
  have hc9 := hq8.2
  refine zs_iconst (pc := 11) C dX8_flourOfRun_11 (by decide) ?_
  refine zs_istore (pc := 12) C dX8_flourOfRun_12 (by decide) ?_
  dsimp only [zset, zclr, znone]
  have L14 : ∀ (nn : Nat) (x5 : Int) (G1 : zH), (0 ≤ x5) → (zsn [510, 2026, 2027, 2028, 2029, 2030, 2031, 2032, 2033, 2034, 2035, 2048, 2049, 2050, 2051, 2052, 2053, 809, 810, 811, 812, 813] G G1) → ((∀ a9 : Nat, a9 ≠ (Γ.2.1 w 6) → G1.1 809 a9 0 = G.1 809 a9 0)) → (a - x5).toNat < nn → Z p l e (zrm 5) s m args below meth c Γ 6 0 0 (MQ below (zQc Γ (zpi (fun x G' => zsn [510, 2026, 2027, 2028, 2029, 2030, 2031, 2032, 2033, 2034, 2035, 2048, 2049, 2050, 2051, 2052, 2053, 809, 810, 811, 812, 813] G G' ∧ (∀ a9 : Nat, a9 ≠ (Γ.2.1 w 6) → G'.1 809 a9 0 = G.1 809 a9 0)))) args s 0 0 (zA Γ)) 14 [some (zr 9 w), some (zi k), some (zi i0), some (zi a), some (zi b), some (zi x5)] [] G1 := by
    intro nn
    induction nn with
    | zero => intro x5 G1 h14_0 h14_1 h14_2 hm; exact absurd hm (Nat.not_lt_zero _)
    | succ nn ih14 =>
      intro x5 G1 h14_0 h14_1 h14_2 hm14
      refine zs_iload (pc := 14) C dX8_flourOfRun_14 rfl ?_
      refine zs_iload_n (pc := 16) C dX8_flourOfRun_16 rfl ?_
      refine zs_icmp_ge (tgt := 48) (pc := 17) C dX8_flourOfRun_17 (by decide) (fun h17 => ?_) (fun h17 => ?_)
      · skip
        refine zs_aload_n (pc := 48) C dX8_flourOfRun_48 rfl ?_
        refine zs_getf (pc := 49) C dX8_flourOfRun_49 w_X8_41 f_9_6 (by decide) ?_
        refine zs_getf (pc := 52) C dX8_flourOfRun_52 w_X8_172 f_8_1 (by decide) ?_
        refine zs_iload (pc := 55) C dX8_flourOfRun_55 rfl ?_
        refine zVip1 (pc := 57) C dX8_flourOfRun_57 v_X8_218 (c_X4_flourFrom hX ) (by decide) (by decide) ⟨Nat.zero_le _, Nat.zero_le _⟩ (Nat.le_of_ble_eq_true rfl) (fun x57 l57 u57 hp57 => ?_)
        have hq57 := hp57
        exact zs_iret (pc := 60) C hr hlk dX8_flourOfRun_60 ⟨by repeat (first | exact zsn_rf | assumption | refine zsn_C (by decide) ?_ | refine zsn_I (by decide) ?_ | refine zsn_J ?_ | refine zsn_P ?_ | refine zsn_m (by assumption) (by decide) ?_ | refine zsn_c (by assumption) (by decide) ?_), h14_2⟩
      · skip
        refine zs_aload_n (pc := 20) C dX8_flourOfRun_20 rfl ?_
        refine zs_getf (pc := 21) C dX8_flourOfRun_21 w_X8_41 f_9_6 (by decide) ?_
        refine zs_iload_n (pc := 24) C dX8_flourOfRun_24 rfl ?_
        refine zs_iload_n (pc := 25) C dX8_flourOfRun_25 rfl ?_
        refine zVv2 (pc := 26) C dX8_flourOfRun_26 v_X8_239 (c_X7_confessOfDay hX ) (by decide) (by decide) ⟨Nat.zero_le _, Nat.zero_le _⟩ (Nat.le_of_ble_eq_true rfl) (fun G26 hp26 => ?_)
        obtain ⟨hz26, hq26⟩ := hp26
        refine zs_aload_n (pc := 29) C dX8_flourOfRun_29 rfl ?_
        refine zs_getf (pc := 30) C dX8_flourOfRun_30 w_X8_41 f_9_6 (by decide) ?_
        refine zs_dupa (pc := 33) C dX8_flourOfRun_33 ?_
        refine zs_geti (r := 809) (pc := 34) C dX8_flourOfRun_34 w_X8_221 f_8_9 rfl (r_809 0) (fun v34 e34 l34 u34 => ?_)
        refine zs_iconst (pc := 37) C dX8_flourOfRun_37 (by decide) ?_
        first | refine zs_iadd (pc := 38) C dX8_flourOfRun_38 (by omega) ?_ | refine zs_iaddF (pc := 38) C dX8_flourOfRun_38 (fun z38 hz381 hz382 => ?_)
        refine zs_puti (r := 809) (pc := 39) C dX8_flourOfRun_39 w_X8_221 f_8_9 rfl (r_809 0) (by omega) ?_
        first | refine zs_iinc (pc := 42) C dX8_flourOfRun_42 rfl (by decide) (by omega) ?_ | refine zs_iincF (pc := 42) C dX8_flourOfRun_42 rfl (by decide) (fun z42 hz421 hz422 => ?_)
        dsimp only [zset, zclr, znone]
        refine zs_goto (tgt := 14) (pc := 45) C dX8_flourOfRun_45 (by decide) ?_
        exact zs_wk (ih14 _ _ (by omega) (by repeat (first | exact zsn_rf | assumption | refine zsn_C (by decide) ?_ | refine zsn_I (by decide) ?_ | refine zsn_J ?_ | refine zsn_P ?_ | refine zsn_m (by assumption) (by decide) ?_ | refine zsn_c (by assumption) (by decide) ?_)) (fun a9 h9 => by simp only [zuI_1, zuI_2, zuJ_1, zuJ_2, zuJ_3, zuP_1, zuP_2, zuP_3, zuC_1, zuC_2, reduceIte, Nat.reduceEqDiff, false_and, and_false, true_and, and_true, and_self, or_true, true_or, or_false, false_or]; rw [if_neg h9]; have q2 := zsm_at hz26 809 a9 0 (by decide); have q3 := h14_2 a9 h9; omega) (by first | omega | (simp only [zuI_1, zuI_2, zuJ_1, zuJ_2, zuJ_3, zuP_1, zuP_2, zuP_3, zuC_1, zuC_2, reduceIte, Nat.reduceEqDiff, false_and, and_false, true_and, and_true, and_self, or_true, true_or, or_false, false_or]; omega))) (zwk_s rfl (zwk_s rfl (zwk_s rfl (zwk_s rfl (zwk_s rfl (zwk_s rfl zwk_0))))))
  exact zs_wk (L14 _ _ _ (by omega) (by repeat (first | exact zsn_rf | assumption | refine zsn_C (by decide) ?_ | refine zsn_I (by decide) ?_ | refine zsn_J ?_ | refine zsn_P ?_ | refine zsn_m (by assumption) (by decide) ?_ | refine zsn_c (by assumption) (by decide) ?_)) hc9 (Nat.lt_succ_self _)) (zwk_s rfl (zwk_s rfl (zwk_s rfl (zwk_s rfl (zwk_s rfl (zwk_s rfl zwk_0))))))

set_option maxHeartbeats 4000000 in
set_option maxRecDepth 100000 in
theorem c_X8_runE {l : Launch} {Γ : zΓ} {G : zH} {w : Nat} {a b : Int} (hX : zXs Γ)  : zMet l Γ yX8_run cX8_run 3 (some .int) 6 [zr 9 w, zi a, zi b] G (zpi (fun x G' => zsn [510, 2026, 2027, 2028, 2029, 2030, 2031, 2032, 2033, 2034, 2035, 2048, 2049, 2050, 2051, 2052, 2053, 809, 810, 811, 812, 813] G G' ∧ (∀ a9 : Nat, a9 ≠ (Γ.2.1 w 6) → G'.1 809 a9 0 = G.1 809 a9 0))) := by
  refine zMet_of RX8 hX (by decide) rfl (Nat.le_of_ble_eq_true rfl) ?_
  intro p e s m args below meth c C hr hlk
  show Z p l e (zrm 6) s m args below meth c Γ 3 0 0 (MQ below (zQc Γ (zpi (fun x G' => zsn [510, 2026, 2027, 2028, 2029, 2030, 2031, 2032, 2033, 2034, 2035, 2048, 2049, 2050, 2051, 2052, 2053, 809, 810, 811, 812, 813] G G' ∧ (∀ a9 : Nat, a9 ≠ (Γ.2.1 w 6) → G'.1 809 a9 0 = G.1 809 a9 0)))) args s 0 0 (zA Γ)) 0 [some (zr 9 w), some (zi a), some (zi b)] [] G
  refine zs_loc 1 rfl (fun ha1 hb1 => ?_)
  refine zs_loc 2 rfl (fun ha2 hb2 => ?_)
  refine zs_aload_n (pc := 0) C dX8_run_0 rfl ?_
  refine zs_iload_n (pc := 1) C dX8_run_1 rfl ?_
  refine zVip1 (pc := 2) C dX8_run_2 v_X8_236 (c_X8_areDays hX ) (by decide) (by decide) ⟨Nat.zero_le _, Nat.zero_le _⟩ (Nat.le_of_ble_eq_true rfl) (fun x2 l2 u2 hp2 => ?_)
  have hq2 := hp2
  refine zs_if_eq (tgt := 26) (pc := 5) C dX8_run_5 (by decide) (fun h5 => ?_) (fun h5 => ?_)
  · skip
    refine zs_iconst (pc := 26) C dX8_run_26 (by decide) ?_
    exact zs_iret (pc := 27) C hr hlk dX8_run_27 ⟨by repeat (first | exact zsn_rf | assumption | refine zsn_C (by decide) ?_ | refine zsn_I (by decide) ?_ | refine zsn_J ?_ | refine zsn_P ?_ | refine zsn_m (by assumption) (by decide) ?_ | refine zsn_c (by assumption) (by decide) ?_), (by first | exact hq20 | exact (fun a9 _ => rfl))⟩
  · skip
    refine zs_iload_n (pc := 8) C dX8_run_8 rfl ?_
    refine zSip1 (pc := 9) C dX8_run_9 s_X8_215 (c_X8_isFine hX ) (by decide) ⟨Nat.zero_le _, Nat.zero_le _⟩ (Nat.le_of_ble_eq_true rfl) (fun x9 l9 u9 hp9 => ?_)
    have hq9 := hp9
    refine zs_if_eq (tgt := 26) (pc := 12) C dX8_run_12 (by decide) (fun h12 => ?_) (fun h12 => ?_)
    · skip
      refine zs_iconst (pc := 26) C dX8_run_26 (by decide) ?_
      exact zs_iret (pc := 27) C hr hlk dX8_run_27 ⟨by repeat (first | exact zsn_rf | assumption | refine zsn_C (by decide) ?_ | refine zsn_I (by decide) ?_ | refine zsn_J ?_ | refine zsn_P ?_ | refine zsn_m (by assumption) (by decide) ?_ | refine zsn_c (by assumption) (by decide) ?_), (by first | exact hq20 | exact (fun a9 _ => rfl))⟩
    · skip
      refine zs_aload_n (pc := 15) C dX8_run_15 rfl ?_
      refine zs_iconst (pc := 16) C dX8_run_16 (by decide) ?_
      refine zs_iconst (pc := 17) C dX8_run_17 (by decide) ?_
      refine zs_iload_n (pc := 18) C dX8_run_18 rfl ?_
      refine zs_iload_n (pc := 19) C dX8_run_19 rfl ?_
      refine zVi4 (pc := 20) C dX8_run_20 v_X8_281 (c_X8_flourOfRunE hX ) (by decide) (by decide) ⟨Nat.zero_le _, Nat.zero_le _⟩ (Nat.le_of_ble_eq_true rfl) (fun x20 G20 l20 u20 hp20 => ?_)
      obtain ⟨hz20, hq20⟩ := hp20
      refine zs_goto (tgt := 27) (pc := 23) C dX8_run_23 (by decide) ?_
      exact zs_iret (pc := 27) C hr hlk dX8_run_27 ⟨by repeat (first | exact zsn_rf | assumption | refine zsn_C (by decide) ?_ | refine zsn_I (by decide) ?_ | refine zsn_J ?_ | refine zsn_P ?_ | refine zsn_m (by assumption) (by decide) ?_ | refine zsn_c (by assumption) (by decide) ?_), (by first | exact hq20 | exact (fun a9 _ => rfl))⟩

set_option maxHeartbeats 4000000 in
set_option maxRecDepth 100000 in
theorem c_X8_triedE {l : Launch} {Γ : zΓ} {G : zH} {w : Nat} {k i0 a b : Int} (hX : zXs Γ)  : zMet l Γ yX8_tried cX8_tried 5 (some .int) 6 [zr 9 w, zi k, zi i0, zi a, zi b] G (zpi (fun x G' => zsn [510, 2026, 2027, 2028, 2029, 2030, 2031, 2032, 2033, 2034, 2035, 2048, 2049, 2050, 2051, 2052, 2053, 809, 810, 811, 812, 813] G G' ∧ (∀ a9 : Nat, a9 ≠ (Γ.2.1 w 6) → G'.1 809 a9 0 = G.1 809 a9 0))) := by
  refine zMet_of RX8 hX (by decide) rfl (Nat.le_of_ble_eq_true rfl) ?_
  intro p e s m args below meth c C hr hlk
  show Z p l e (zrm 6) s m args below meth c Γ 5 0 0 (MQ below (zQc Γ (zpi (fun x G' => zsn [510, 2026, 2027, 2028, 2029, 2030, 2031, 2032, 2033, 2034, 2035, 2048, 2049, 2050, 2051, 2052, 2053, 809, 810, 811, 812, 813] G G' ∧ (∀ a9 : Nat, a9 ≠ (Γ.2.1 w 6) → G'.1 809 a9 0 = G.1 809 a9 0)))) args s 0 0 (zA Γ)) 0 [some (zr 9 w), some (zi k), some (zi i0), some (zi a), some (zi b)] [] G
  refine zs_loc 1 rfl (fun ha1 hb1 => ?_)
  refine zs_loc 2 rfl (fun ha2 hb2 => ?_)
  refine zs_loc 3 rfl (fun ha3 hb3 => ?_)
  refine zs_loc 4 rfl (fun ha4 hb4 => ?_)
  refine zs_aload_n (pc := 0) C dX8_tried_0 rfl ?_
  refine zs_iload_n (pc := 1) C dX8_tried_1 rfl ?_
  refine zVip1 (pc := 2) C dX8_tried_2 v_X8_236 (c_X8_areDays hX ) (by decide) (by decide) ⟨Nat.zero_le _, Nat.zero_le _⟩ (Nat.le_of_ble_eq_true rfl) (fun x2 l2 u2 hp2 => ?_)
  have hq2 := hp2
  refine zs_if_eq (tgt := 25) (pc := 5) C dX8_tried_5 (by decide) (fun h5 => ?_) (fun h5 => ?_)
  · skip
    refine zs_iconst (pc := 25) C dX8_tried_25 (by decide) ?_
    exact zs_iret (pc := 26) C hr hlk dX8_tried_26 ⟨by repeat (first | exact zsn_rf | assumption | refine zsn_C (by decide) ?_ | refine zsn_I (by decide) ?_ | refine zsn_J ?_ | refine zsn_P ?_ | refine zsn_m (by assumption) (by decide) ?_ | refine zsn_c (by assumption) (by decide) ?_), (by first | exact hq33 | exact (fun a9 _ => rfl))⟩
  · skip
    refine zs_iload (pc := 8) C dX8_tried_8 rfl ?_
    refine zSip1 (pc := 10) C dX8_tried_10 s_X8_215 (c_X8_isFine hX ) (by decide) ⟨Nat.zero_le _, Nat.zero_le _⟩ (Nat.le_of_ble_eq_true rfl) (fun x10 l10 u10 hp10 => ?_)
    have hq10 := hp10
    refine zs_if_eq (tgt := 25) (pc := 13) C dX8_tried_13 (by decide) (fun h13 => ?_) (fun h13 => ?_)
    · skip
      refine zs_iconst (pc := 25) C dX8_tried_25 (by decide) ?_
      exact zs_iret (pc := 26) C hr hlk dX8_tried_26 ⟨by repeat (first | exact zsn_rf | assumption | refine zsn_C (by decide) ?_ | refine zsn_I (by decide) ?_ | refine zsn_J ?_ | refine zsn_P ?_ | refine zsn_m (by assumption) (by decide) ?_ | refine zsn_c (by assumption) (by decide) ?_), (by first | exact hq33 | exact (fun a9 _ => rfl))⟩
    · skip
      refine zs_aload_n (pc := 16) C dX8_tried_16 rfl ?_
      refine zs_iload_n (pc := 17) C dX8_tried_17 rfl ?_
      refine zs_iload_n (pc := 18) C dX8_tried_18 rfl ?_
      refine zVip2 (pc := 19) C dX8_tried_19 v_X8_285 (c_X8_isTrial hX ) (by decide) (by decide) ⟨Nat.zero_le _, Nat.zero_le _⟩ (Nat.le_of_ble_eq_true rfl) (fun x19 l19 u19 hp19 => ?_)
      have hq19 := hp19
      refine zs_if_ne (tgt := 27) (pc := 22) C dX8_tried_22 (by decide) (fun h22 => ?_) (fun h22 => ?_)
      · skip
        refine zs_aload_n (pc := 27) C dX8_tried_27 rfl ?_
        refine zs_iload_n (pc := 28) C dX8_tried_28 rfl ?_
        refine zs_iload_n (pc := 29) C dX8_tried_29 rfl ?_
        refine zs_iload_n (pc := 30) C dX8_tried_30 rfl ?_
        refine zs_iload (pc := 31) C dX8_tried_31 rfl ?_
        refine zVi4 (pc := 33) C dX8_tried_33 v_X8_281 (c_X8_flourOfRunE hX ) (by decide) (by decide) ⟨Nat.zero_le _, Nat.zero_le _⟩ (Nat.le_of_ble_eq_true rfl) (fun x33 G33 l33 u33 hp33 => ?_)
        obtain ⟨hz33, hq33⟩ := hp33
        exact zs_iret (pc := 36) C hr hlk dX8_tried_36 ⟨by repeat (first | exact zsn_rf | assumption | refine zsn_C (by decide) ?_ | refine zsn_I (by decide) ?_ | refine zsn_J ?_ | refine zsn_P ?_ | refine zsn_m (by assumption) (by decide) ?_ | refine zsn_c (by assumption) (by decide) ?_), (by first | exact hq33 | exact (fun a9 _ => rfl))⟩
      · skip
        refine zs_iconst (pc := 25) C dX8_tried_25 (by decide) ?_
        exact zs_iret (pc := 26) C hr hlk dX8_tried_26 ⟨by repeat (first | exact zsn_rf | assumption | refine zsn_C (by decide) ?_ | refine zsn_I (by decide) ?_ | refine zsn_J ?_ | refine zsn_P ?_ | refine zsn_m (by assumption) (by decide) ?_ | refine zsn_c (by assumption) (by decide) ?_), (by first | exact hq33 | exact (fun a9 _ => rfl))⟩

set_option maxHeartbeats 4000000 in
set_option maxRecDepth 100000 in
theorem c_X8_liesE {l : Launch} {Γ : zΓ} {G : zH} {w : Nat} {a p0 k : Int} (hX : zXs Γ)  : zMet l Γ yX8_lies cX8_lies 7 (some .int) 3 [zr 9 w, zi a, zi p0, zi k] G (zpi (fun x G' => zsn [510, 2026, 2027, 2028, 2029, 2030, 2031, 2032, 2033, 2034, 2035, 2048, 2049, 2050, 2051, 2052, 2053, 809, 810, 811, 812, 813] G G' ∧ (∀ a9 : Nat, a9 ≠ (Γ.2.1 w 6) → G'.1 809 a9 0 = G.1 809 a9 0))) := by
  refine zMet_of RX8 hX (by decide) rfl (Nat.le_of_ble_eq_true rfl) ?_
  intro p e s m args below meth c C hr hlk
  show Z p l e (zrm 3) s m args below meth c Γ 7 0 0 (MQ below (zQc Γ (zpi (fun x G' => zsn [510, 2026, 2027, 2028, 2029, 2030, 2031, 2032, 2033, 2034, 2035, 2048, 2049, 2050, 2051, 2052, 2053, 809, 810, 811, 812, 813] G G' ∧ (∀ a9 : Nat, a9 ≠ (Γ.2.1 w 6) → G'.1 809 a9 0 = G.1 809 a9 0)))) args s 0 0 (zA Γ)) 0 [some (zr 9 w), some (zi a), some (zi p0), some (zi k), none, none, none] [] G
  refine zs_loc 1 rfl (fun ha1 hb1 => ?_)
  refine zs_loc 2 rfl (fun ha2 hb2 => ?_)
  refine zs_loc 3 rfl (fun ha3 hb3 => ?_)
  refine zs_iload_n (pc := 0) C dX8_lies_0 rfl ?_
  refine zs_if_lt (tgt := 27) (pc := 1) C dX8_lies_1 (by decide) (fun h1 => ?_) (fun h1 => ?_)
  · skip
    refine zs_iconst (pc := 27) C dX8_lies_27 (by decide) ?_
    exact zs_iret (pc := 28) C hr hlk dX8_lies_28 ⟨by repeat (first | exact zsn_rf | assumption | refine zsn_C (by decide) ?_ | refine zsn_I (by decide) ?_ | refine zsn_J ?_ | refine zsn_P ?_ | refine zsn_m (by assumption) (by decide) ?_ | refine zsn_c (by assumption) (by decide) ?_), (by first | exact h54_2 | exact (fun a9 _ => rfl))⟩
  · skip
    refine zs_aload_n (pc := 4) C dX8_lies_4 rfl ?_
    refine zs_getd (r := 903) (pc := 5) C dX8_lies_5 w_X8_25 f_9_3 (by decide) rfl (fun v5 e5 t5 => ?_)
    refine zs_iconst (pc := 8) C dX8_lies_8 (by decide) ?_
    refine zs_iload_n (pc := 9) C dX8_lies_9 rfl ?_
    refine zVip2 (pc := 10) C dX8_lies_10 v_X8_104 (c_X5_has hX (by omega)) (by decide) (by decide) ⟨Nat.zero_le _, Nat.zero_le _⟩ (Nat.le_of_ble_eq_true rfl) (fun x10 l10 u10 hp10 => ?_)
    have hq10 := hp10
    refine zs_if_eq (tgt := 27) (pc := 13) C dX8_lies_13 (by decide) (fun h13 => ?_) (fun h13 => ?_)
    · skip
      refine zs_iconst (pc := 27) C dX8_lies_27 (by decide) ?_
      exact zs_iret (pc := 28) C hr hlk dX8_lies_28 ⟨by repeat (first | exact zsn_rf | assumption | refine zsn_C (by decide) ?_ | refine zsn_I (by decide) ?_ | refine zsn_J ?_ | refine zsn_P ?_ | refine zsn_m (by assumption) (by decide) ?_ | refine zsn_c (by assumption) (by decide) ?_), (by first | exact h54_2 | exact (fun a9 _ => rfl))⟩
    · skip
      refine zs_iload_n (pc := 16) C dX8_lies_16 rfl ?_
      refine zs_iconst (pc := 17) C dX8_lies_17 (by decide) ?_
      refine zs_icmp_lt (tgt := 27) (pc := 18) C dX8_lies_18 (by decide) (fun h18 => ?_) (fun h18 => ?_)
      · skip
        refine zs_iconst (pc := 27) C dX8_lies_27 (by decide) ?_
        exact zs_iret (pc := 28) C hr hlk dX8_lies_28 ⟨by repeat (first | exact zsn_rf | assumption | refine zsn_C (by decide) ?_ | refine zsn_I (by decide) ?_ | refine zsn_J ?_ | refine zsn_P ?_ | refine zsn_m (by assumption) (by decide) ?_ | refine zsn_c (by assumption) (by decide) ?_), (by first | exact h54_2 | exact (fun a9 _ => rfl))⟩
      · skip
        refine zs_iload_n (pc := 21) C dX8_lies_21 rfl ?_
        refine zs_bipush (pc := 22) C dX8_lies_22 (by decide) (by decide) ?_
        refine zs_icmp_le (tgt := 29) (pc := 24) C dX8_lies_24 (by decide) (fun h24 => ?_) (fun h24 => ?_)
        · skip
          refine zs_aload_n (pc := 29) C dX8_lies_29 rfl ?_
          refine zs_getf (pc := 30) C dX8_lies_30 w_X8_41 f_9_6 (by decide) ?_
          refine zs_aload_n (pc := 33) C dX8_lies_33 rfl ?_
          refine zs_getf (pc := 34) C dX8_lies_34 w_X8_34 f_9_4 (by decide) ?_
          refine zVv1 (pc := 37) C dX8_lies_37 v_X8_288 (c_X7_copyFromD hX ) (by decide) (by decide) ⟨Nat.zero_le _, Nat.zero_le _⟩ (Nat.le_of_ble_eq_true rfl) (fun G37 hp37 => ?_)
          obtain ⟨hz37, hq37⟩ := hp37
          have hc9 := hq37.2
          refine zs_aload_n (pc := 40) C dX8_lies_40 rfl ?_
          refine zs_getf (pc := 41) C dX8_lies_41 w_X8_41 f_9_6 (by decide) ?_
          refine zs_iload_n (pc := 44) C dX8_lies_44 rfl ?_
          refine zs_puti (r := 812) (pc := 45) C dX8_lies_45 w_X8_316 f_8_12 rfl (r_812 0) (by omega) ?_
          refine zs_iconst (pc := 48) C dX8_lies_48 (by decide) ?_
          refine zs_istore (pc := 49) C dX8_lies_49 (by decide) ?_
          dsimp only [zset, zclr, znone]
          refine zs_iconst (pc := 51) C dX8_lies_51 (by decide) ?_
          refine zs_istore (pc := 52) C dX8_lies_52 (by decide) ?_
          dsimp only [zset, zclr, znone]
          have L54 : ∀ (nn : Nat) (x4 x5 : Int) (G1 : zH), (0 ≤ x5 ∧ x5 ≤ 40) → (zsn [510, 2026, 2027, 2028, 2029, 2030, 2031, 2032, 2033, 2034, 2035, 2048, 2049, 2050, 2051, 2052, 2053, 809, 810, 811, 812, 813] G G1) → ((∀ a9 : Nat, a9 ≠ (Γ.2.1 w 6) → G1.1 809 a9 0 = G.1 809 a9 0)) → (40 - x5).toNat < nn → Z p l e (zrm 3) s m args below meth c Γ 7 0 0 (MQ below (zQc Γ (zpi (fun x G' => zsn [510, 2026, 2027, 2028, 2029, 2030, 2031, 2032, 2033, 2034, 2035, 2048, 2049, 2050, 2051, 2052, 2053, 809, 810, 811, 812, 813] G G' ∧ (∀ a9 : Nat, a9 ≠ (Γ.2.1 w 6) → G'.1 809 a9 0 = G.1 809 a9 0)))) args s 0 0 (zA Γ)) 54 [some (zr 9 w), some (zi a), some (zi p0), some (zi k), some (zi x4), some (zi x5), none] [] G1 := by
            intro nn
            induction nn with
            | zero => intro x4 x5 G1 h54_0 h54_1 h54_2 hm; exact absurd hm (Nat.not_lt_zero _)
            | succ nn ih54 =>
              intro x4 x5 G1 h54_0 h54_1 h54_2 hm54
              refine zs_iload (pc := 54) C dX8_lies_54 rfl ?_
              refine zs_iload_n (pc := 56) C dX8_lies_56 rfl ?_
              refine zs_icmp_ge (tgt := 105) (pc := 57) C dX8_lies_57 (by decide) (fun h57 => ?_) (fun h57 => ?_)
              · skip
                refine zs_iload (pc := 105) C dX8_lies_105 rfl ?_
                exact zs_iret (pc := 107) C hr hlk dX8_lies_107 ⟨by repeat (first | exact zsn_rf | assumption | refine zsn_C (by decide) ?_ | refine zsn_I (by decide) ?_ | refine zsn_J ?_ | refine zsn_P ?_ | refine zsn_m (by assumption) (by decide) ?_ | refine zsn_c (by assumption) (by decide) ?_), (by first | exact h54_2 | exact (fun a9 _ => rfl))⟩
              · skip
                refine zs_aload_n (pc := 60) C dX8_lies_60 rfl ?_
                refine zs_getf (pc := 61) C dX8_lies_61 w_X8_41 f_9_6 (by decide) ?_
                refine zs_iload_n (pc := 64) C dX8_lies_64 rfl ?_
                refine zVi1 (pc := 65) C dX8_lies_65 v_X8_181 (c_X7_sinByChance hX (by omega)) (by decide) (by decide) ⟨Nat.zero_le _, Nat.zero_le _⟩ (Nat.le_of_ble_eq_true rfl) (fun x65 G65 l65 u65 hp65 => ?_)
                obtain ⟨hz65, hq65⟩ := hp65
                refine zs_istore (pc := 68) C dX8_lies_68 (by decide) ?_
                dsimp only [zset, zclr, znone]
                refine zs_aload_n (pc := 70) C dX8_lies_70 rfl ?_
                refine zs_getd (r := 903) (pc := 71) C dX8_lies_71 w_X8_25 f_9_3 (by decide) rfl (fun v71 e71 t71 => ?_)
                try simp only [hz65.2, zuI_1, zuI_2, zuJ_1, zuJ_2, zuJ_3, zuP_1, zuP_2, zuP_3, zuC_1, zuC_2, reduceIte, Nat.reduceEqDiff, false_and, and_false, true_and, and_true, and_self, or_true, true_or, or_false, false_or] at e71
                refine zs_iconst (pc := 74) C dX8_lies_74 (by decide) ?_
                refine zs_iload (pc := 75) C dX8_lies_75 rfl ?_
                refine zVip2 (pc := 77) C dX8_lies_77 v_X8_104 (c_X5_has hX (by omega)) (by decide) (by decide) ⟨Nat.zero_le _, Nat.zero_le _⟩ (Nat.le_of_ble_eq_true rfl) (fun x77 l77 u77 hp77 => ?_)
                have hq77 := hp77
                refine zs_if_eq (tgt := 99) (pc := 80) C dX8_lies_80 (by decide) (fun h80 => ?_) (fun h80 => ?_)
                · skip
                  first | refine zs_iinc (pc := 99) C dX8_lies_99 rfl (by decide) (by omega) ?_ | refine zs_iincF (pc := 99) C dX8_lies_99 rfl (by decide) (fun z99 hz991 hz992 => ?_)
                  dsimp only [zset, zclr, znone]
                  refine zs_goto (tgt := 54) (pc := 102) C dX8_lies_102 (by decide) ?_
                  exact zs_wk (ih54 _ _ _ (by omega) (by repeat (first | exact zsn_rf | assumption | refine zsn_C (by decide) ?_ | refine zsn_I (by decide) ?_ | refine zsn_J ?_ | refine zsn_P ?_ | refine zsn_m (by assumption) (by decide) ?_ | refine zsn_c (by assumption) (by decide) ?_)) (fun a9 h9 => (zsm_at hz65 809 a9 0 (by decide)).trans (h54_2 a9 h9)) (by first | omega | (simp only [zuI_1, zuI_2, zuJ_1, zuJ_2, zuJ_3, zuP_1, zuP_2, zuP_3, zuC_1, zuC_2, reduceIte, Nat.reduceEqDiff, false_and, and_false, true_and, and_true, and_self, or_true, true_or, or_false, false_or]; omega))) (zwk_s rfl (zwk_s rfl (zwk_s rfl (zwk_s rfl (zwk_s rfl (zwk_s rfl (zwk_n zwk_0)))))))
                · skip
                  refine zs_aload_n (pc := 83) C dX8_lies_83 rfl ?_
                  refine zs_getf (pc := 84) C dX8_lies_84 w_X8_41 f_9_6 (by decide) ?_
                  refine zs_iload_n (pc := 87) C dX8_lies_87 rfl ?_
                  refine zs_iload (pc := 88) C dX8_lies_88 rfl ?_
                  refine zVip2 (pc := 90) C dX8_lies_90 v_X8_142 (c_X7_leftOf hX (by omega) (by omega)) (by decide) (by decide) ⟨Nat.zero_le _, Nat.zero_le _⟩ (Nat.le_of_ble_eq_true rfl) (fun x90 l90 u90 hp90 => ?_)
                  have hq90 := hp90
                  refine zs_if_ne (tgt := 99) (pc := 93) C dX8_lies_93 (by decide) (fun h93 => ?_) (fun h93 => ?_)
                  · skip
                    first | refine zs_iinc (pc := 99) C dX8_lies_99 rfl (by decide) (by omega) ?_ | refine zs_iincF (pc := 99) C dX8_lies_99 rfl (by decide) (fun z99 hz991 hz992 => ?_)
                    dsimp only [zset, zclr, znone]
                    refine zs_goto (tgt := 54) (pc := 102) C dX8_lies_102 (by decide) ?_
                    exact zs_wk (ih54 _ _ _ (by omega) (by repeat (first | exact zsn_rf | assumption | refine zsn_C (by decide) ?_ | refine zsn_I (by decide) ?_ | refine zsn_J ?_ | refine zsn_P ?_ | refine zsn_m (by assumption) (by decide) ?_ | refine zsn_c (by assumption) (by decide) ?_)) (fun a9 h9 => (zsm_at hz65 809 a9 0 (by decide)).trans (h54_2 a9 h9)) (by first | omega | (simp only [zuI_1, zuI_2, zuJ_1, zuJ_2, zuJ_3, zuP_1, zuP_2, zuP_3, zuC_1, zuC_2, reduceIte, Nat.reduceEqDiff, false_and, and_false, true_and, and_true, and_self, or_true, true_or, or_false, false_or]; omega))) (zwk_s rfl (zwk_s rfl (zwk_s rfl (zwk_s rfl (zwk_s rfl (zwk_s rfl (zwk_n zwk_0)))))))
                  · skip
                    first | refine zs_iinc (pc := 96) C dX8_lies_96 rfl (by decide) (by omega) ?_ | refine zs_iincF (pc := 96) C dX8_lies_96 rfl (by decide) (fun z96 hz961 hz962 => ?_)
                    dsimp only [zset, zclr, znone]
                    first | refine zs_iinc (pc := 99) C dX8_lies_99 rfl (by decide) (by omega) ?_ | refine zs_iincF (pc := 99) C dX8_lies_99 rfl (by decide) (fun z99 hz991 hz992 => ?_)
                    dsimp only [zset, zclr, znone]
                    refine zs_goto (tgt := 54) (pc := 102) C dX8_lies_102 (by decide) ?_
                    exact zs_wk (ih54 _ _ _ (by omega) (by repeat (first | exact zsn_rf | assumption | refine zsn_C (by decide) ?_ | refine zsn_I (by decide) ?_ | refine zsn_J ?_ | refine zsn_P ?_ | refine zsn_m (by assumption) (by decide) ?_ | refine zsn_c (by assumption) (by decide) ?_)) (fun a9 h9 => (zsm_at hz65 809 a9 0 (by decide)).trans (h54_2 a9 h9)) (by first | omega | (simp only [zuI_1, zuI_2, zuJ_1, zuJ_2, zuJ_3, zuP_1, zuP_2, zuP_3, zuC_1, zuC_2, reduceIte, Nat.reduceEqDiff, false_and, and_false, true_and, and_true, and_self, or_true, true_or, or_false, false_or]; omega))) (zwk_s rfl (zwk_s rfl (zwk_s rfl (zwk_s rfl (zwk_s rfl (zwk_s rfl (zwk_n zwk_0)))))))
          exact zs_wk (L54 _ _ _ _ (by omega) (by repeat (first | exact zsn_rf | assumption | refine zsn_C (by decide) ?_ | refine zsn_I (by decide) ?_ | refine zsn_J ?_ | refine zsn_P ?_ | refine zsn_m (by assumption) (by decide) ?_ | refine zsn_c (by assumption) (by decide) ?_)) (fun a9 h9 => by simp only [zuI_1, zuI_2, zuJ_1, zuJ_2, zuJ_3, zuP_1, zuP_2, zuP_3, zuC_1, zuC_2, reduceIte, Nat.reduceEqDiff, false_and, and_false, true_and, and_true, and_self, or_true, true_or, or_false, false_or]; exact hc9 a9 h9) (Nat.lt_succ_self _)) (zwk_s rfl (zwk_s rfl (zwk_s rfl (zwk_s rfl (zwk_s rfl (zwk_s rfl (zwk_n zwk_0)))))))
        · skip
          refine zs_iconst (pc := 27) C dX8_lies_27 (by decide) ?_
          exact zs_iret (pc := 28) C hr hlk dX8_lies_28 ⟨by repeat (first | exact zsn_rf | assumption | refine zsn_C (by decide) ?_ | refine zsn_I (by decide) ?_ | refine zsn_J ?_ | refine zsn_P ?_ | refine zsn_m (by assumption) (by decide) ?_ | refine zsn_c (by assumption) (by decide) ?_), (by first | exact h54_2 | exact (fun a9 _ => rfl))⟩

set_option maxHeartbeats 4000000 in
set_option maxRecDepth 100000 in
theorem c_X2_planForE {l : Launch} {Γ : zΓ} {G : zH} {w b : Nat} {k : Int} (hX : zXs Γ) (hc : 0 ≤ k ∧ k ≤ 4) : zMet l Γ yX2_planFor cX2_planFor 4 none 18 [zr 3 w, zr 8 b, zi k] G (zpv (fun G' => zsn [306, 307, 510, 809, 810, 811, 812, 813, 2020, 2021, 2022, 2023, 2024, 2026, 2027, 2028, 2029, 2030, 2031, 2032, 2033, 2034, 2035, 2048, 2049, 2050, 2051, 2052, 2053] G G' ∧ (∀ a9 : Nat, a9 ≠ (Γ.2.1 w 0) → G'.1 809 a9 0 = G.1 809 a9 0))) := by
  refine zMet_of RX2 hX (by decide) rfl (Nat.le_of_ble_eq_true rfl) ?_
  intro p e s m args below meth c C hr hlk
  show Z p l e (zrm 18) s m args below meth c Γ 4 0 0 (MQ below (zQc Γ (zpv (fun G' => zsn [306, 307, 510, 809, 810, 811, 812, 813, 2020, 2021, 2022, 2023, 2024, 2026, 2027, 2028, 2029, 2030, 2031, 2032, 2033, 2034, 2035, 2048, 2049, 2050, 2051, 2052, 2053] G G' ∧ (∀ a9 : Nat, a9 ≠ (Γ.2.1 w 0) → G'.1 809 a9 0 = G.1 809 a9 0)))) args s 0 0 (zA Γ)) 0 [some (zr 3 w), some (zr 8 b), some (zi k), none] [] G
  refine zs_loc 2 rfl (fun ha2 hb2 => ?_)
  refine zs_aload_n (pc := 0) C dX2_planFor_0 rfl ?_
  refine zs_getf (pc := 1) C dX2_planFor_1 w_X2_9 f_3_1 (by decide) ?_
  refine zs_iload_n (pc := 4) C dX2_planFor_4 rfl ?_
  refine zs_iald (r := 2020) (pc := 5) C dX2_planFor_5 a_20 (by decide) (by omega) rfl (r_2020 _) (fun v5 e5 l5 u5 => ?_)
  refine zs_if_eq (tgt := 10) (pc := 6) C dX2_planFor_6 (by decide) (fun h6 => ?_) (fun h6 => ?_)
  · skip
    refine zs_aload_n (pc := 10) C dX2_planFor_10 rfl ?_
    refine zs_getf (pc := 11) C dX2_planFor_11 w_X2_9 f_3_1 (by decide) ?_
    refine zs_iload_n (pc := 14) C dX2_planFor_14 rfl ?_
    refine zs_iconst (pc := 15) C dX2_planFor_15 (by decide) ?_
    refine zs_iast (r := 2020) (pc := 16) C dX2_planFor_16 a_20 (by decide) (by omega) rfl (r_2020 _) (by omega) ?_
    refine zs_aload_n (pc := 17) C dX2_planFor_17 rfl ?_
    refine zs_iload_n (pc := 18) C dX2_planFor_18 rfl ?_
    refine zs_puti (r := 306) (pc := 19) C dX2_planFor_19 w_X2_37 f_3_6 rfl (r_306 0) (by omega) ?_
    refine zs_aload_n (pc := 22) C dX2_planFor_22 rfl ?_
    refine zs_getf (pc := 23) C dX2_planFor_23 w_X2_15 f_3_2 (by decide) ?_
    refine zs_aload_n (pc := 26) C dX2_planFor_26 rfl ?_
    refine zs_geti (r := 306) (pc := 27) C dX2_planFor_27 w_X2_37 f_3_6 rfl (r_306 0) (fun v27 e27 l27 u27 => ?_)
    try simp only [zuI_1, zuI_2, zuJ_1, zuJ_2, zuJ_3, zuP_1, zuP_2, zuP_3, zuC_1, zuC_2, reduceIte, Nat.reduceEqDiff, false_and, and_false, true_and, and_true, and_self, or_true, true_or, or_false, false_or] at e27
    refine zs_iconst (pc := 30) C dX2_planFor_30 (by decide) ?_
    refine zs_iast (r := 2021) (pc := 31) C dX2_planFor_31 a_21 (by decide) (by omega) rfl (r_2021 _) (by omega) ?_
    refine zs_aload_n (pc := 32) C dX2_planFor_32 rfl ?_
    refine zs_getf (pc := 33) C dX2_planFor_33 w_X2_18 f_3_3 (by decide) ?_
    refine zs_aload_n (pc := 36) C dX2_planFor_36 rfl ?_
    refine zs_geti (r := 306) (pc := 37) C dX2_planFor_37 w_X2_37 f_3_6 rfl (r_306 0) (fun v37 e37 l37 u37 => ?_)
    try simp only [zuI_1, zuI_2, zuJ_1, zuJ_2, zuJ_3, zuP_1, zuP_2, zuP_3, zuC_1, zuC_2, reduceIte, Nat.reduceEqDiff, false_and, and_false, true_and, and_true, and_self, or_true, true_or, or_false, false_or] at e37
    refine zs_iconst (pc := 40) C dX2_planFor_40 (by decide) ?_
    refine zs_iast (r := 2022) (pc := 41) C dX2_planFor_41 a_22 (by decide) (by omega) rfl (r_2022 _) (by omega) ?_
    refine zs_aload_n (pc := 42) C dX2_planFor_42 rfl ?_
    refine zs_getf (pc := 43) C dX2_planFor_43 w_X2_27 f_3_0 (by decide) ?_
    refine zs_aload_n (pc := 46) C dX2_planFor_46 rfl ?_
    refine zVv1 (pc := 47) C dX2_planFor_47 v_X2_41 (c_X7_copyFromD hX ) (by decide) (by decide) ⟨Nat.zero_le _, Nat.zero_le _⟩ (Nat.le_of_ble_eq_true rfl) (fun G47 hp47 => ?_)
    obtain ⟨hz47, hq47⟩ := hp47
    try simp only [zuI_1, zuI_2, zuJ_1, zuJ_2, zuJ_3, zuP_1, zuP_2, zuP_3, zuC_1, zuC_2, reduceIte, Nat.reduceEqDiff, false_and, and_false, true_and, and_true, and_self, or_true, true_or, or_false, false_or] at hq47
    have hc9 := hq47.2
    refine zs_aload_n (pc := 50) C dX2_planFor_50 rfl ?_
    refine zs_aload_n (pc := 51) C dX2_planFor_51 rfl ?_
    refine zs_getd (r := 800) (pc := 52) C dX2_planFor_52 w_X2_47 f_8_0 (by decide) rfl (fun v52 e52 t52 => ?_)
    refine zs_getf (pc := 55) C dX2_planFor_55 w_X2_51 f_6_6 (by decide) ?_
    refine zs_aload_n (pc := 58) C dX2_planFor_58 rfl ?_
    refine zs_geti (r := 306) (pc := 59) C dX2_planFor_59 w_X2_37 f_3_6 rfl (r_306 0) (fun v59 e59 l59 u59 => ?_)
    refine zs_iald (r := 2041) (pc := 62) C dX2_planFor_62 a_41 (by decide) (by omega) rfl (r_2041 _) (fun v62 e62 l62 u62 => ?_)
    refine zs_puti (r := 307) (pc := 63) C dX2_planFor_63 w_X2_56 f_3_7 rfl (r_307 0) (by omega) ?_
    refine zs_aload_n (pc := 66) C dX2_planFor_66 rfl ?_
    refine zs_getd (r := 800) (pc := 67) C dX2_planFor_67 w_X2_47 f_8_0 (by decide) rfl (fun v67 e67 t67 => ?_)
    try simp only [zuI_1, zuI_2, zuJ_1, zuJ_2, zuJ_3, zuP_1, zuP_2, zuP_3, zuC_1, zuC_2, reduceIte, Nat.reduceEqDiff, false_and, and_false, true_and, and_true, and_self, or_true, true_or, or_false, false_or] at e67
    refine zs_getf (pc := 70) C dX2_planFor_70 w_X2_59 f_6_7 (by decide) ?_
    refine zs_aload_n (pc := 73) C dX2_planFor_73 rfl ?_
    refine zs_geti (r := 306) (pc := 74) C dX2_planFor_74 w_X2_37 f_3_6 rfl (r_306 0) (fun v74 e74 l74 u74 => ?_)
    try simp only [zuI_1, zuI_2, zuJ_1, zuJ_2, zuJ_3, zuP_1, zuP_2, zuP_3, zuC_1, zuC_2, reduceIte, Nat.reduceEqDiff, false_and, and_false, true_and, and_true, and_self, or_true, true_or, or_false, false_or] at e74
    refine zs_iald (r := 2042) (pc := 77) C dX2_planFor_77 a_42 (by decide) (by omega) rfl (r_2042 _) (fun v77 e77 l77 u77 => ?_)
    try simp only [zuI_1, zuI_2, zuJ_1, zuJ_2, zuJ_3, zuP_1, zuP_2, zuP_3, zuC_1, zuC_2, reduceIte, Nat.reduceEqDiff, false_and, and_false, true_and, and_true, and_self, or_true, true_or, or_false, false_or] at e77
    refine zs_aload_n (pc := 78) C dX2_planFor_78 rfl ?_
    refine zs_getf (pc := 79) C dX2_planFor_79 w_X2_62 f_8_1 (by decide) ?_
    refine zs_aload_n (pc := 82) C dX2_planFor_82 rfl ?_
    refine zs_geti (r := 307) (pc := 83) C dX2_planFor_83 w_X2_56 f_3_7 rfl (r_307 0) (fun v83 e83 l83 u83 => ?_)
    try simp only [zuI_1, zuI_2, zuJ_1, zuJ_2, zuJ_3, zuP_1, zuP_2, zuP_3, zuC_1, zuC_2, reduceIte, Nat.reduceEqDiff, false_and, and_false, true_and, and_true, and_self, or_true, true_or, or_false, false_or] at e83
    refine zVip1 (pc := 86) C dX2_planFor_86 v_X2_66 (c_X4_flourFrom hX ) (by decide) (by decide) ⟨Nat.zero_le _, Nat.zero_le _⟩ (Nat.le_of_ble_eq_true rfl) (fun x86 l86 u86 hp86 => ?_)
    have hq86 := hp86
    try simp only [zuI_1, zuI_2, zuJ_1, zuJ_2, zuJ_3, zuP_1, zuP_2, zuP_3, zuC_1, zuC_2, reduceIte, Nat.reduceEqDiff, false_and, and_false, true_and, and_true, and_self, or_true, true_or, or_false, false_or] at hq86
    first | refine zs_isub (pc := 89) C dX2_planFor_89 (by omega) ?_ | refine zs_isubF (pc := 89) C dX2_planFor_89 (fun z89 hz891 hz892 => ?_)
    refine zs_istore_n (pc := 90) C dX2_planFor_90 (by decide) ?_
    dsimp only [zset, zclr, znone]
    refine zs_iload_n (pc := 91) C dX2_planFor_91 rfl ?_
    refine zs_if_gt (tgt := 104) (pc := 92) C dX2_planFor_92 (by decide) (fun h92 => ?_) (fun h92 => ?_)
    · skip
      refine zs_aload_n (pc := 104) C dX2_planFor_104 rfl ?_
      refine zs_iconst (pc := 105) C dX2_planFor_105 (by decide) ?_
      refine zs_iconst (pc := 106) C dX2_planFor_106 (by decide) ?_
      refine zs_iload_n (pc := 107) C dX2_planFor_107 rfl ?_
      refine zVip3 (pc := 108) C dX2_planFor_108 v_X2_76 (c_X2_isHopeful hX ) (by decide) (by decide) ⟨Nat.zero_le _, Nat.zero_le _⟩ (Nat.le_of_ble_eq_true rfl) (fun x108 l108 u108 hp108 => ?_)
      have hq108 := hp108
      try simp only [zuI_1, zuI_2, zuJ_1, zuJ_2, zuJ_3, zuP_1, zuP_2, zuP_3, zuC_1, zuC_2, reduceIte, Nat.reduceEqDiff, false_and, and_false, true_and, and_true, and_self, or_true, true_or, or_false, false_or] at hq108
      refine zs_if_eq (tgt := 121) (pc := 111) C dX2_planFor_111 (by decide) (fun h111 => ?_) (fun h111 => ?_)
      · skip
        exact zs_vret (pc := 121) C hr hlk dX2_planFor_121 ⟨by repeat (first | exact zsn_rf | assumption | refine zsn_C (by decide) ?_ | refine zsn_I (by decide) ?_ | refine zsn_J ?_ | refine zsn_P ?_ | refine zsn_m (by assumption) (by decide) ?_ | refine zsn_c (by assumption) (by decide) ?_), fun a9 h9 => (by first | rfl | exact hc9 a9 h9 | exact (zsn_at (rs := [306, 307, 510, 810, 811, 812, 813, 2020, 2021, 2022, 2023, 2024, 2026, 2027, 2028, 2029, 2030, 2031, 2032, 2033, 2034, 2035, 2048, 2049, 2050, 2051, 2052, 2053]) (G := G47) (by repeat (first | exact zsn_rf | assumption | refine zsn_C (by decide) ?_ | refine zsn_I (by decide) ?_ | refine zsn_J ?_ | refine zsn_P ?_ | refine zsn_m (by assumption) (by decide) ?_ | refine zsn_c (by assumption) (by decide) ?_)) 809 a9 0 (by decide)).trans (hc9 a9 h9))⟩
      · skip
        refine zs_aload_n (pc := 114) C dX2_planFor_114 rfl ?_
        refine zs_iconst (pc := 115) C dX2_planFor_115 (by decide) ?_
        refine zs_iconst (pc := 116) C dX2_planFor_116 (by decide) ?_
        refine zs_iload_n (pc := 117) C dX2_planFor_117 rfl ?_
        refine zVv3 (pc := 118) C dX2_planFor_118 v_X2_80 (c_X2_seek hX (by first | omega | (simp only [zuI_1, zuI_2, zuJ_1, zuJ_2, zuJ_3, zuP_1, zuP_2, zuP_3, zuC_1, zuC_2, reduceIte, Nat.reduceEqDiff, false_and, and_false, true_and, and_true, and_self, or_true, true_or, or_false, false_or]; omega))) (by decide) (by decide) ⟨Nat.zero_le _, Nat.zero_le _⟩ (Nat.le_of_ble_eq_true rfl) (fun G118 hp118 => ?_)
        obtain ⟨hz118, hq118⟩ := hp118
        try simp only [zuI_1, zuI_2, zuJ_1, zuJ_2, zuJ_3, zuP_1, zuP_2, zuP_3, zuC_1, zuC_2, reduceIte, Nat.reduceEqDiff, false_and, and_false, true_and, and_true, and_self, or_true, true_or, or_false, false_or] at hq118
        exact zs_vret (pc := 121) C hr hlk dX2_planFor_121 ⟨by repeat (first | exact zsn_rf | assumption | refine zsn_C (by decide) ?_ | refine zsn_I (by decide) ?_ | refine zsn_J ?_ | refine zsn_P ?_ | refine zsn_m (by assumption) (by decide) ?_ | refine zsn_c (by assumption) (by decide) ?_), fun a9 h9 => (by first | rfl | exact hc9 a9 h9 | exact (zsn_at (rs := [306, 307, 510, 810, 811, 812, 813, 2020, 2021, 2022, 2023, 2024, 2026, 2027, 2028, 2029, 2030, 2031, 2032, 2033, 2034, 2035, 2048, 2049, 2050, 2051, 2052, 2053]) (G := G47) (by repeat (first | exact zsn_rf | assumption | refine zsn_C (by decide) ?_ | refine zsn_I (by decide) ?_ | refine zsn_J ?_ | refine zsn_P ?_ | refine zsn_m (by assumption) (by decide) ?_ | refine zsn_c (by assumption) (by decide) ?_)) 809 a9 0 (by decide)).trans (hc9 a9 h9))⟩
    · skip
      refine zs_aload_n (pc := 95) C dX2_planFor_95 rfl ?_
      refine zs_iconst (pc := 96) C dX2_planFor_96 (by decide) ?_
      refine zs_iconst (pc := 97) C dX2_planFor_97 (by decide) ?_
      refine zVv2 (pc := 98) C dX2_planFor_98 v_X2_72 (c_X2_take hX ) (by decide) (by decide) ⟨Nat.zero_le _, Nat.zero_le _⟩ (Nat.le_of_ble_eq_true rfl) (fun G98 hp98 => ?_)
      obtain ⟨hz98, hq98⟩ := hp98
      try simp only [zuI_1, zuI_2, zuJ_1, zuJ_2, zuJ_3, zuP_1, zuP_2, zuP_3, zuC_1, zuC_2, reduceIte, Nat.reduceEqDiff, false_and, and_false, true_and, and_true, and_self, or_true, true_or, or_false, false_or] at hq98
      refine zs_goto (tgt := 121) (pc := 101) C dX2_planFor_101 (by decide) ?_
      exact zs_vret (pc := 121) C hr hlk dX2_planFor_121 ⟨by repeat (first | exact zsn_rf | assumption | refine zsn_C (by decide) ?_ | refine zsn_I (by decide) ?_ | refine zsn_J ?_ | refine zsn_P ?_ | refine zsn_m (by assumption) (by decide) ?_ | refine zsn_c (by assumption) (by decide) ?_), fun a9 h9 => (by first | rfl | exact hc9 a9 h9 | exact (zsn_at (rs := [306, 307, 510, 810, 811, 812, 813, 2020, 2021, 2022, 2023, 2024, 2026, 2027, 2028, 2029, 2030, 2031, 2032, 2033, 2034, 2035, 2048, 2049, 2050, 2051, 2052, 2053]) (G := G47) (by repeat (first | exact zsn_rf | assumption | refine zsn_C (by decide) ?_ | refine zsn_I (by decide) ?_ | refine zsn_J ?_ | refine zsn_P ?_ | refine zsn_m (by assumption) (by decide) ?_ | refine zsn_c (by assumption) (by decide) ?_)) 809 a9 0 (by decide)).trans (hc9 a9 h9))⟩
  · skip
    exact zs_vret (pc := 9) C hr hlk dX2_planFor_9 ⟨by repeat (first | exact zsn_rf | assumption | refine zsn_C (by decide) ?_ | refine zsn_I (by decide) ?_ | refine zsn_J ?_ | refine zsn_P ?_ | refine zsn_m (by assumption) (by decide) ?_ | refine zsn_c (by assumption) (by decide) ?_), fun a9 h9 => (by first | rfl | exact hc9 a9 h9 | exact (zsn_at (rs := [306, 307, 510, 810, 811, 812, 813, 2020, 2021, 2022, 2023, 2024, 2026, 2027, 2028, 2029, 2030, 2031, 2032, 2033, 2034, 2035, 2048, 2049, 2050, 2051, 2052, 2053]) (G := G47) (by repeat (first | exact zsn_rf | assumption | refine zsn_C (by decide) ?_ | refine zsn_I (by decide) ?_ | refine zsn_J ?_ | refine zsn_P ?_ | refine zsn_m (by assumption) (by decide) ?_ | refine zsn_c (by assumption) (by decide) ?_)) 809 a9 0 (by decide)).trans (hc9 a9 h9))⟩

set_option maxHeartbeats 4000000 in
set_option maxRecDepth 100000 in
theorem c_X8_planE {l : Launch} {Γ : zΓ} {G : zH} {w : Nat} {p0 k : Int} (hX : zXs Γ)  : zMet l Γ yX8_plan cX8_plan 3 (some .int) 19 [zr 9 w, zi p0, zi k] G (zpi (fun x G' => zsn [306, 307, 510, 809, 810, 811, 812, 813, 2020, 2021, 2022, 2023, 2024, 2026, 2027, 2028, 2029, 2030, 2031, 2032, 2033, 2034, 2035, 2048, 2049, 2050, 2051, 2052, 2053] G G' ∧ (∀ a9 : Nat, a9 ≠ (Γ.2.1 (Γ.2.1 w 7) 0) → G'.1 809 a9 0 = G.1 809 a9 0))) := by
  refine zMet_of RX8 hX (by decide) rfl (Nat.le_of_ble_eq_true rfl) ?_
  intro p e s m args below meth c C hr hlk
  show Z p l e (zrm 19) s m args below meth c Γ 3 0 0 (MQ below (zQc Γ (zpi (fun x G' => zsn [306, 307, 510, 809, 810, 811, 812, 813, 2020, 2021, 2022, 2023, 2024, 2026, 2027, 2028, 2029, 2030, 2031, 2032, 2033, 2034, 2035, 2048, 2049, 2050, 2051, 2052, 2053] G G' ∧ (∀ a9 : Nat, a9 ≠ (Γ.2.1 (Γ.2.1 w 7) 0) → G'.1 809 a9 0 = G.1 809 a9 0)))) args s 0 0 (zA Γ)) 0 [some (zr 9 w), some (zi p0), some (zi k)] [] G
  refine zs_loc 1 rfl (fun ha1 hb1 => ?_)
  refine zs_loc 2 rfl (fun ha2 hb2 => ?_)
  refine zs_aload_n (pc := 0) C dX8_plan_0 rfl ?_
  refine zs_iload_n (pc := 1) C dX8_plan_1 rfl ?_
  refine zVip1 (pc := 2) C dX8_plan_2 v_X8_245 (c_X8_isOpen hX ) (by decide) (by decide) ⟨Nat.zero_le _, Nat.zero_le _⟩ (Nat.le_of_ble_eq_true rfl) (fun x2 l2 u2 hp2 => ?_)
  have hq2 := hp2
  refine zs_if_eq (tgt := 17) (pc := 5) C dX8_plan_5 (by decide) (fun h5 => ?_) (fun h5 => ?_)
  · skip
    refine zs_iconst (pc := 17) C dX8_plan_17 (by decide) ?_
    exact zs_iret (pc := 18) C hr hlk dX8_plan_18 ⟨by repeat (first | exact zsn_rf | assumption | refine zsn_C (by decide) ?_ | refine zsn_I (by decide) ?_ | refine zsn_J ?_ | refine zsn_P ?_ | refine zsn_m (by assumption) (by decide) ?_ | refine zsn_c (by assumption) (by decide) ?_), (by first | exact (fun a9 _ => rfl) | exact hq28)⟩
  · skip
    refine zs_iload_n (pc := 8) C dX8_plan_8 rfl ?_
    refine zs_if_lt (tgt := 17) (pc := 9) C dX8_plan_9 (by decide) (fun h9 => ?_) (fun h9 => ?_)
    · skip
      refine zs_iconst (pc := 17) C dX8_plan_17 (by decide) ?_
      exact zs_iret (pc := 18) C hr hlk dX8_plan_18 ⟨by repeat (first | exact zsn_rf | assumption | refine zsn_C (by decide) ?_ | refine zsn_I (by decide) ?_ | refine zsn_J ?_ | refine zsn_P ?_ | refine zsn_m (by assumption) (by decide) ?_ | refine zsn_c (by assumption) (by decide) ?_), (by first | exact (fun a9 _ => rfl) | exact hq28)⟩
    · skip
      refine zs_iload_n (pc := 12) C dX8_plan_12 rfl ?_
      refine zs_iconst (pc := 13) C dX8_plan_13 (by decide) ?_
      refine zs_icmp_le (tgt := 19) (pc := 14) C dX8_plan_14 (by decide) (fun h14 => ?_) (fun h14 => ?_)
      · skip
        refine zs_aload_n (pc := 19) C dX8_plan_19 rfl ?_
        refine zs_getf (pc := 20) C dX8_plan_20 w_X8_49 f_9_7 (by decide) ?_
        refine zs_aload_n (pc := 23) C dX8_plan_23 rfl ?_
        refine zs_getf (pc := 24) C dX8_plan_24 w_X8_34 f_9_4 (by decide) ?_
        refine zs_iload_n (pc := 27) C dX8_plan_27 rfl ?_
        refine zVv2 (pc := 28) C dX8_plan_28 v_X8_248 (c_X2_planForE hX (by omega)) (by decide) (by decide) ⟨Nat.zero_le _, Nat.zero_le _⟩ (Nat.le_of_ble_eq_true rfl) (fun G28 hp28 => ?_)
        obtain ⟨hz28, hq28⟩ := hp28
        refine zs_aload_n (pc := 31) C dX8_plan_31 rfl ?_
        refine zs_getf (pc := 32) C dX8_plan_32 w_X8_49 f_9_7 (by decide) ?_
        refine zs_iload_n (pc := 35) C dX8_plan_35 rfl ?_
        refine zVip1 (pc := 36) C dX8_plan_36 v_X8_252 (c_X2_isThere hX (by omega)) (by decide) (by decide) ⟨Nat.zero_le _, Nat.zero_le _⟩ (Nat.le_of_ble_eq_true rfl) (fun x36 l36 u36 hp36 => ?_)
        have hq36 := hp36
        refine zs_if_ne (tgt := 45) (pc := 39) C dX8_plan_39 (by decide) (fun h39 => ?_) (fun h39 => ?_)
        · skip
          refine zs_iload_n (pc := 45) C dX8_plan_45 rfl ?_
          refine zs_if_ne (tgt := 61) (pc := 46) C dX8_plan_46 (by decide) (fun h46 => ?_) (fun h46 => ?_)
          · skip
            refine zs_aload_n (pc := 61) C dX8_plan_61 rfl ?_
            refine zs_getf (pc := 62) C dX8_plan_62 w_X8_49 f_9_7 (by decide) ?_
            refine zs_getf (pc := 65) C dX8_plan_65 w_X8_256 f_3_3 (by decide) ?_
            refine zs_iload_n (pc := 68) C dX8_plan_68 rfl ?_
            refine zs_iald (r := 2022) (pc := 69) C dX8_plan_69 a_22 (by decide) (by omega) rfl (r_2022 _) (fun v69 e69 l69 u69 => ?_)
            exact zs_iret (pc := 70) C hr hlk dX8_plan_70 ⟨by repeat (first | exact zsn_rf | assumption | refine zsn_C (by decide) ?_ | refine zsn_I (by decide) ?_ | refine zsn_J ?_ | refine zsn_P ?_ | refine zsn_m (by assumption) (by decide) ?_ | refine zsn_c (by assumption) (by decide) ?_), (by first | exact (fun a9 _ => rfl) | exact hq28)⟩
          · skip
            refine zs_aload_n (pc := 49) C dX8_plan_49 rfl ?_
            refine zs_getf (pc := 50) C dX8_plan_50 w_X8_49 f_9_7 (by decide) ?_
            refine zs_getf (pc := 53) C dX8_plan_53 w_X8_255 f_3_2 (by decide) ?_
            refine zs_iload_n (pc := 56) C dX8_plan_56 rfl ?_
            refine zs_iald (r := 2021) (pc := 57) C dX8_plan_57 a_21 (by decide) (by omega) rfl (r_2021 _) (fun v57 e57 l57 u57 => ?_)
            refine zs_goto (tgt := 70) (pc := 58) C dX8_plan_58 (by decide) ?_
            exact zs_iret (pc := 70) C hr hlk dX8_plan_70 ⟨by repeat (first | exact zsn_rf | assumption | refine zsn_C (by decide) ?_ | refine zsn_I (by decide) ?_ | refine zsn_J ?_ | refine zsn_P ?_ | refine zsn_m (by assumption) (by decide) ?_ | refine zsn_c (by assumption) (by decide) ?_), (by first | exact (fun a9 _ => rfl) | exact hq28)⟩
        · skip
          refine zs_bipush (pc := 42) C dX8_plan_42 (by decide) (by decide) ?_
          exact zs_iret (pc := 44) C hr hlk dX8_plan_44 ⟨by repeat (first | exact zsn_rf | assumption | refine zsn_C (by decide) ?_ | refine zsn_I (by decide) ?_ | refine zsn_J ?_ | refine zsn_P ?_ | refine zsn_m (by assumption) (by decide) ?_ | refine zsn_c (by assumption) (by decide) ?_), (by first | exact (fun a9 _ => rfl) | exact hq28)⟩
      · skip
        refine zs_iconst (pc := 17) C dX8_plan_17 (by decide) ?_
        exact zs_iret (pc := 18) C hr hlk dX8_plan_18 ⟨by repeat (first | exact zsn_rf | assumption | refine zsn_C (by decide) ?_ | refine zsn_I (by decide) ?_ | refine zsn_J ?_ | refine zsn_P ?_ | refine zsn_m (by assumption) (by decide) ?_ | refine zsn_c (by assumption) (by decide) ?_), (by first | exact (fun a9 _ => rfl) | exact hq28)⟩

set_option maxHeartbeats 4000000 in
set_option maxRecDepth 100000 in
theorem c_X8_plannedE {l : Launch} {Γ : zΓ} {G : zH} {w : Nat} {p0 i0 k : Int} (hX : zXs Γ)  : zMet l Γ yX8_planned cX8_planned 5 (some .int) 19 [zr 9 w, zi p0, zi i0, zi k] G (zpi (fun x G' => zsn [306, 307, 510, 809, 810, 811, 812, 813, 2020, 2021, 2022, 2023, 2024, 2026, 2027, 2028, 2029, 2030, 2031, 2032, 2033, 2034, 2035, 2048, 2049, 2050, 2051, 2052, 2053] G G' ∧ (∀ a9 : Nat, a9 ≠ (Γ.2.1 (Γ.2.1 w 7) 0) → G'.1 809 a9 0 = G.1 809 a9 0))) := by
  refine zMet_of RX8 hX (by decide) rfl (Nat.le_of_ble_eq_true rfl) ?_
  intro p e s m args below meth c C hr hlk
  show Z p l e (zrm 19) s m args below meth c Γ 5 0 0 (MQ below (zQc Γ (zpi (fun x G' => zsn [306, 307, 510, 809, 810, 811, 812, 813, 2020, 2021, 2022, 2023, 2024, 2026, 2027, 2028, 2029, 2030, 2031, 2032, 2033, 2034, 2035, 2048, 2049, 2050, 2051, 2052, 2053] G G' ∧ (∀ a9 : Nat, a9 ≠ (Γ.2.1 (Γ.2.1 w 7) 0) → G'.1 809 a9 0 = G.1 809 a9 0)))) args s 0 0 (zA Γ)) 0 [some (zr 9 w), some (zi p0), some (zi i0), some (zi k), none] [] G
  refine zs_loc 1 rfl (fun ha1 hb1 => ?_)
  refine zs_loc 2 rfl (fun ha2 hb2 => ?_)
  refine zs_loc 3 rfl (fun ha3 hb3 => ?_)
  refine zs_aload_n (pc := 0) C dX8_planned_0 rfl ?_
  refine zs_iload_n (pc := 1) C dX8_planned_1 rfl ?_
  refine zVip1 (pc := 2) C dX8_planned_2 v_X8_245 (c_X8_isOpen hX ) (by decide) (by decide) ⟨Nat.zero_le _, Nat.zero_le _⟩ (Nat.le_of_ble_eq_true rfl) (fun x2 l2 u2 hp2 => ?_)
  have hq2 := hp2
  refine zs_if_eq (tgt := 21) (pc := 5) C dX8_planned_5 (by decide) (fun h5 => ?_) (fun h5 => ?_)
  · skip
    refine zs_iconst (pc := 21) C dX8_planned_21 (by decide) ?_
    exact zs_iret (pc := 22) C hr hlk dX8_planned_22 ⟨by repeat (first | exact zsn_rf | assumption | refine zsn_C (by decide) ?_ | refine zsn_I (by decide) ?_ | refine zsn_J ?_ | refine zsn_P ?_ | refine zsn_m (by assumption) (by decide) ?_ | refine zsn_c (by assumption) (by decide) ?_), (by first | exact (fun a9 _ => rfl) | exact hq32)⟩
  · skip
    refine zs_iload_n (pc := 8) C dX8_planned_8 rfl ?_
    refine zs_if_lt (tgt := 21) (pc := 9) C dX8_planned_9 (by decide) (fun h9 => ?_) (fun h9 => ?_)
    · skip
      refine zs_iconst (pc := 21) C dX8_planned_21 (by decide) ?_
      exact zs_iret (pc := 22) C hr hlk dX8_planned_22 ⟨by repeat (first | exact zsn_rf | assumption | refine zsn_C (by decide) ?_ | refine zsn_I (by decide) ?_ | refine zsn_J ?_ | refine zsn_P ?_ | refine zsn_m (by assumption) (by decide) ?_ | refine zsn_c (by assumption) (by decide) ?_), (by first | exact (fun a9 _ => rfl) | exact hq32)⟩
    · skip
      refine zs_iload_n (pc := 12) C dX8_planned_12 rfl ?_
      refine zs_if_lt (tgt := 21) (pc := 13) C dX8_planned_13 (by decide) (fun h13 => ?_) (fun h13 => ?_)
      · skip
        refine zs_iconst (pc := 21) C dX8_planned_21 (by decide) ?_
        exact zs_iret (pc := 22) C hr hlk dX8_planned_22 ⟨by repeat (first | exact zsn_rf | assumption | refine zsn_C (by decide) ?_ | refine zsn_I (by decide) ?_ | refine zsn_J ?_ | refine zsn_P ?_ | refine zsn_m (by assumption) (by decide) ?_ | refine zsn_c (by assumption) (by decide) ?_), (by first | exact (fun a9 _ => rfl) | exact hq32)⟩
      · skip
        refine zs_iload_n (pc := 16) C dX8_planned_16 rfl ?_
        refine zs_iconst (pc := 17) C dX8_planned_17 (by decide) ?_
        refine zs_icmp_le (tgt := 23) (pc := 18) C dX8_planned_18 (by decide) (fun h18 => ?_) (fun h18 => ?_)
        · skip
          refine zs_aload_n (pc := 23) C dX8_planned_23 rfl ?_
          refine zs_getf (pc := 24) C dX8_planned_24 w_X8_49 f_9_7 (by decide) ?_
          refine zs_aload_n (pc := 27) C dX8_planned_27 rfl ?_
          refine zs_getf (pc := 28) C dX8_planned_28 w_X8_34 f_9_4 (by decide) ?_
          refine zs_iload_n (pc := 31) C dX8_planned_31 rfl ?_
          refine zVv2 (pc := 32) C dX8_planned_32 v_X8_248 (c_X2_planForE hX (by omega)) (by decide) (by decide) ⟨Nat.zero_le _, Nat.zero_le _⟩ (Nat.le_of_ble_eq_true rfl) (fun G32 hp32 => ?_)
          obtain ⟨hz32, hq32⟩ := hp32
          refine zs_aload_n (pc := 35) C dX8_planned_35 rfl ?_
          refine zs_getf (pc := 36) C dX8_planned_36 w_X8_49 f_9_7 (by decide) ?_
          refine zs_iload_n (pc := 39) C dX8_planned_39 rfl ?_
          refine zVip1 (pc := 40) C dX8_planned_40 v_X8_252 (c_X2_isThere hX (by omega)) (by decide) (by decide) ⟨Nat.zero_le _, Nat.zero_le _⟩ (Nat.le_of_ble_eq_true rfl) (fun x40 l40 u40 hp40 => ?_)
          have hq40 := hp40
          refine zs_if_eq (tgt := 59) (pc := 43) C dX8_planned_43 (by decide) (fun h43 => ?_) (fun h43 => ?_)
          · skip
            refine zs_bipush (pc := 59) C dX8_planned_59 (by decide) (by decide) ?_
            exact zs_iret (pc := 61) C hr hlk dX8_planned_61 ⟨by repeat (first | exact zsn_rf | assumption | refine zsn_C (by decide) ?_ | refine zsn_I (by decide) ?_ | refine zsn_J ?_ | refine zsn_P ?_ | refine zsn_m (by assumption) (by decide) ?_ | refine zsn_c (by assumption) (by decide) ?_), (by first | exact (fun a9 _ => rfl) | exact hq32)⟩
          · skip
            refine zs_iload_n (pc := 46) C dX8_planned_46 rfl ?_
            refine zs_aload_n (pc := 47) C dX8_planned_47 rfl ?_
            refine zs_getf (pc := 48) C dX8_planned_48 w_X8_49 f_9_7 (by decide) ?_
            refine zs_getf (pc := 51) C dX8_planned_51 w_X8_256 f_3_3 (by decide) ?_
            refine zs_iload_n (pc := 54) C dX8_planned_54 rfl ?_
            refine zs_iald (r := 2022) (pc := 55) C dX8_planned_55 a_22 (by decide) (by omega) rfl (r_2022 _) (fun v55 e55 l55 u55 => ?_)
            refine zs_icmp_lt (tgt := 62) (pc := 56) C dX8_planned_56 (by decide) (fun h56 => ?_) (fun h56 => ?_)
            · skip
              refine zs_aload_n (pc := 62) C dX8_planned_62 rfl ?_
              refine zs_getf (pc := 63) C dX8_planned_63 w_X8_49 f_9_7 (by decide) ?_
              refine zs_iload_n (pc := 66) C dX8_planned_66 rfl ?_
              refine zs_iload_n (pc := 67) C dX8_planned_67 rfl ?_
              refine zVip2 (pc := 68) C dX8_planned_68 v_X8_259 (c_X2_stepOf hX (by omega)) (by decide) (by decide) ⟨Nat.zero_le _, Nat.zero_le _⟩ (Nat.le_of_ble_eq_true rfl) (fun x68 l68 u68 hp68 => ?_)
              have hq68 := hp68
              refine zs_istore (pc := 71) C dX8_planned_71 (by decide) ?_
              dsimp only [zset, zclr, znone]
              refine zs_iload_n (pc := 73) C dX8_planned_73 rfl ?_
              refine zs_if_ne (tgt := 84) (pc := 74) C dX8_planned_74 (by decide) (fun h74 => ?_) (fun h74 => ?_)
              · skip
                refine zs_iload (pc := 84) C dX8_planned_84 rfl ?_
                refine zs_iconst (pc := 86) C dX8_planned_86 (by decide) ?_
                first | refine zs_irem (pc := 87) C dX8_planned_87 (by omega) (by omega) (fun hz871 hz872 => ?_) | refine zs_iremF (pc := 87) C dX8_planned_87 (by omega) (fun z87 hz871 hz872 => ?_)
                exact zs_iret (pc := 88) C hr hlk dX8_planned_88 ⟨by repeat (first | exact zsn_rf | assumption | refine zsn_C (by decide) ?_ | refine zsn_I (by decide) ?_ | refine zsn_J ?_ | refine zsn_P ?_ | refine zsn_m (by assumption) (by decide) ?_ | refine zsn_c (by assumption) (by decide) ?_), (by first | exact (fun a9 _ => rfl) | exact hq32)⟩
              · skip
                refine zs_iload (pc := 77) C dX8_planned_77 rfl ?_
                refine zs_iconst (pc := 79) C dX8_planned_79 (by decide) ?_
                first | refine zs_idiv (pc := 80) C dX8_planned_80 (by omega) (by omega) (fun hz801 hz802 => ?_) | refine zs_idivF (pc := 80) C dX8_planned_80 (by omega) (fun z80 hz801 hz802 => ?_)
                refine zs_goto (tgt := 88) (pc := 81) C dX8_planned_81 (by decide) ?_
                exact zs_iret (pc := 88) C hr hlk dX8_planned_88 ⟨by repeat (first | exact zsn_rf | assumption | refine zsn_C (by decide) ?_ | refine zsn_I (by decide) ?_ | refine zsn_J ?_ | refine zsn_P ?_ | refine zsn_m (by assumption) (by decide) ?_ | refine zsn_c (by assumption) (by decide) ?_), (by first | exact (fun a9 _ => rfl) | exact hq32)⟩
            · skip
              refine zs_bipush (pc := 59) C dX8_planned_59 (by decide) (by decide) ?_
              exact zs_iret (pc := 61) C hr hlk dX8_planned_61 ⟨by repeat (first | exact zsn_rf | assumption | refine zsn_C (by decide) ?_ | refine zsn_I (by decide) ?_ | refine zsn_J ?_ | refine zsn_P ?_ | refine zsn_m (by assumption) (by decide) ?_ | refine zsn_c (by assumption) (by decide) ?_), (by first | exact (fun a9 _ => rfl) | exact hq32)⟩
        · skip
          refine zs_iconst (pc := 21) C dX8_planned_21 (by decide) ?_
          exact zs_iret (pc := 22) C hr hlk dX8_planned_22 ⟨by repeat (first | exact zsn_rf | assumption | refine zsn_C (by decide) ?_ | refine zsn_I (by decide) ?_ | refine zsn_J ?_ | refine zsn_P ?_ | refine zsn_m (by assumption) (by decide) ?_ | refine zsn_c (by assumption) (by decide) ?_), (by first | exact (fun a9 _ => rfl) | exact hq32)⟩

set_option maxHeartbeats 4000000 in
set_option maxRecDepth 100000 in
theorem c_X8_textH {l : Launch} {Γ : zΓ} {G : zH} {w : Nat} {k : Int} (hX : zXs Γ) (hw : ∀ q9 : Nat, q9 < 24 → G.1 2044 (Γ.2.1 (Γ.2.1 (Γ.2.1 w 2) 0) 0) q9 = wl.getD q9 0) : zMet l Γ yX8_text cX8_text 3 (some .int) 7 [zr 9 w, zi k] G (zpi (fun x G' => zsn [402, 403, 404, 405, 406, 407, 408, 409, 410, 411, 412, 413, 2025, 206, 207, 2014, 2015, 2016, 2017, 2036, 2037, 2038, 2039, 2040, 2041, 2042, 2043, 609, 610, 611, 612, 704, 705, 706, 2045, 2046, 2047, 901, 912, 913, 510, 2048, 2049, 2050, 2051, 2052, 2053, 809, 810, 811, 812, 813, 910, 911, 2020] G G' ∧ (((0 ≤ k ∧ k ≤ G.1 901 w 0 → G'.1 901 w 0 = 0 ∧ ∃ A0 : aS, sCl A0 ∧ G'.1 912 w 0 = (sLN (G.1 2055 (Γ.2.1 w 0)) k 700 (sNext (G.1 2055 (Γ.2.1 w 0)) k A0)) 1 0 ∧ G'.1 913 w 0 = (sLN (G.1 2055 (Γ.2.1 w 0)) k 700 (sNext (G.1 2055 (Γ.2.1 w 0)) k A0)) 2 0 ∧ x = (if (sLN (G.1 2055 (Γ.2.1 w 0)) k 700 (sNext (G.1 2055 (Γ.2.1 w 0)) k A0)) 1 0 = 0 then sLC (G.1 2055 (Γ.2.1 w 0)) k 700 0 (sNext (G.1 2055 (Γ.2.1 w 0)) k A0) else -1)) ∧ (¬ (0 ≤ k ∧ k ≤ G.1 901 w 0) → x = -2 ∧ G'.1 901 w 0 = G.1 901 w 0 ∧ G'.1 912 w 0 = G.1 912 w 0 ∧ G'.1 913 w 0 = G.1 913 w 0)) ∧ ((0 ≤ k ∧ k ≤ G.1 901 w 0 ∧ G'.1 912 w 0 = 0 → G'.1 809 (Γ.2.1 w 4) 0 = 0 ∧ G'.1 911 w 0 = 0) ∧ (¬ (0 ≤ k ∧ k ≤ G.1 901 w 0 ∧ G'.1 912 w 0 = 0) → G'.1 809 (Γ.2.1 w 4) 0 = G.1 809 (Γ.2.1 w 4) 0 ∧ G'.1 911 w 0 = G.1 911 w 0) ∧ (∀ a9 : Nat, a9 ≠ (Γ.2.1 w 4) → G'.1 809 a9 0 = G.1 809 a9 0))))) := by
  refine zMet_of RX8 hX (by decide) rfl (Nat.le_of_ble_eq_true rfl) ?_
  intro p e s m args below meth c C hr hlk
  show Z p l e (zrm 7) s m args below meth c Γ 3 0 0 (MQ below (zQc Γ (zpi (fun x G' => zsn [402, 403, 404, 405, 406, 407, 408, 409, 410, 411, 412, 413, 2025, 206, 207, 2014, 2015, 2016, 2017, 2036, 2037, 2038, 2039, 2040, 2041, 2042, 2043, 609, 610, 611, 612, 704, 705, 706, 2045, 2046, 2047, 901, 912, 913, 510, 2048, 2049, 2050, 2051, 2052, 2053, 809, 810, 811, 812, 813, 910, 911, 2020] G G' ∧ (((0 ≤ k ∧ k ≤ G.1 901 w 0 → G'.1 901 w 0 = 0 ∧ ∃ A0 : aS, sCl A0 ∧ G'.1 912 w 0 = (sLN (G.1 2055 (Γ.2.1 w 0)) k 700 (sNext (G.1 2055 (Γ.2.1 w 0)) k A0)) 1 0 ∧ G'.1 913 w 0 = (sLN (G.1 2055 (Γ.2.1 w 0)) k 700 (sNext (G.1 2055 (Γ.2.1 w 0)) k A0)) 2 0 ∧ x = (if (sLN (G.1 2055 (Γ.2.1 w 0)) k 700 (sNext (G.1 2055 (Γ.2.1 w 0)) k A0)) 1 0 = 0 then sLC (G.1 2055 (Γ.2.1 w 0)) k 700 0 (sNext (G.1 2055 (Γ.2.1 w 0)) k A0) else -1)) ∧ (¬ (0 ≤ k ∧ k ≤ G.1 901 w 0) → x = -2 ∧ G'.1 901 w 0 = G.1 901 w 0 ∧ G'.1 912 w 0 = G.1 912 w 0 ∧ G'.1 913 w 0 = G.1 913 w 0)) ∧ ((0 ≤ k ∧ k ≤ G.1 901 w 0 ∧ G'.1 912 w 0 = 0 → G'.1 809 (Γ.2.1 w 4) 0 = 0 ∧ G'.1 911 w 0 = 0) ∧ (¬ (0 ≤ k ∧ k ≤ G.1 901 w 0 ∧ G'.1 912 w 0 = 0) → G'.1 809 (Γ.2.1 w 4) 0 = G.1 809 (Γ.2.1 w 4) 0 ∧ G'.1 911 w 0 = G.1 911 w 0) ∧ (∀ a9 : Nat, a9 ≠ (Γ.2.1 w 4) → G'.1 809 a9 0 = G.1 809 a9 0)))))) args s 0 0 (zA Γ)) 0 [some (zr 9 w), some (zi k), none] [] G
  refine zs_loc 1 rfl (fun ha1 hb1 => ?_)
  refine zs_good (fun hGy => ?_)
  have hby := hGy.1 901 w 0
  rw [r_901] at hby
  refine zs_iload_n (pc := 0) C dX8_text_0 rfl ?_
  refine zs_if_lt (tgt := 12) (pc := 1) C dX8_text_1 (by decide) (fun h1 => ?_) (fun h1 => ?_)
  · skip
    refine zs_bipush (pc := 12) C dX8_text_12 (by decide) (by decide) ?_
    exact zs_iret (pc := 14) C hr hlk dX8_text_14 ⟨by repeat (first | exact zsn_rf | assumption | refine zsn_C (by decide) ?_ | refine zsn_I (by decide) ?_ | refine zsn_J ?_ | refine zsn_P ?_ | refine zsn_m (by assumption) (by decide) ?_ | refine zsn_c (by assumption) (by decide) ?_), ⟨⟨fun q => by omega, fun _ => ⟨rfl, rfl, rfl, rfl⟩⟩, (by refine ⟨fun q => (by exfalso; omega), fun _ => ⟨rfl, rfl⟩, fun a9 _ => rfl⟩)⟩⟩
  · skip
    refine zs_iload_n (pc := 4) C dX8_text_4 rfl ?_
    refine zs_aload_n (pc := 5) C dX8_text_5 rfl ?_
    refine zs_geti (r := 901) (pc := 6) C dX8_text_6 w_X8_67 f_9_1 rfl (r_901 0) (fun v6 e6 l6 u6 => ?_)
    refine zs_icmp_le (tgt := 15) (pc := 9) C dX8_text_9 (by decide) (fun h9 => ?_) (fun h9 => ?_)
    · skip
      refine zs_aload_n (pc := 15) C dX8_text_15 rfl ?_
      refine zs_iconst (pc := 16) C dX8_text_16 (by decide) ?_
      refine zs_puti (r := 901) (pc := 17) C dX8_text_17 w_X8_67 f_9_1 rfl (r_901 0) (by omega) ?_
      refine zs_aload_n (pc := 20) C dX8_text_20 rfl ?_
      refine zs_getf (pc := 21) C dX8_text_21 w_X8_18 f_9_2 (by decide) ?_
      refine zs_aload_n (pc := 24) C dX8_text_24 rfl ?_
      refine zs_getf (pc := 25) C dX8_text_25 w_X8_11 f_9_0 (by decide) ?_
      refine zs_iload_n (pc := 28) C dX8_text_28 rfl ?_
      refine zVi2 (pc := 29) C dX8_text_29 v_X8_74 (c_X3_readAllF (t := G.2.2 401 (Γ.2.1 w 2)) hX rfl (by omega) (fun q9 hq9 => by simp only [zuI_1, zuI_2, zuJ_1, zuJ_2, zuJ_3, zuP_1, zuP_2, zuP_3, zuC_1, zuC_2, reduceIte, Nat.reduceEqDiff, false_and, and_false, true_and, and_true, and_self, or_true, true_or, or_false, false_or]; exact hw q9 hq9)) (by decide) (by decide) ⟨Nat.zero_le _, Nat.zero_le _⟩ (Nat.le_of_ble_eq_true rfl) (fun x29 G29 l29 u29 hp29 => ?_)
      obtain ⟨hz29, hq29⟩ := hp29
      try simp only [zuI_1, zuI_2, zuJ_1, zuJ_2, zuJ_3, zuP_1, zuP_2, zuP_3, zuC_1, zuC_2, reduceIte, Nat.reduceEqDiff, false_and, and_false, true_and, and_true, and_self, or_true, true_or, or_false, false_or] at hq29
      have tr29_901 := zsm_at hz29 901 w 0 (by decide)
      try simp only [zuI_1, zuI_2, zuJ_1, zuJ_2, zuJ_3, zuP_1, zuP_2, zuP_3, zuC_1, zuC_2, reduceIte, Nat.reduceEqDiff, false_and, and_false, true_and, and_true, and_self, or_true, true_or, or_false, false_or] at tr29_901
      have tr29_912 := zsm_at hz29 912 w 0 (by decide)
      try simp only [zuI_1, zuI_2, zuJ_1, zuJ_2, zuJ_3, zuP_1, zuP_2, zuP_3, zuC_1, zuC_2, reduceIte, Nat.reduceEqDiff, false_and, and_false, true_and, and_true, and_self, or_true, true_or, or_false, false_or] at tr29_912
      have tr29_913 := zsm_at hz29 913 w 0 (by decide)
      try simp only [zuI_1, zuI_2, zuJ_1, zuJ_2, zuJ_3, zuP_1, zuP_2, zuP_3, zuC_1, zuC_2, reduceIte, Nat.reduceEqDiff, false_and, and_false, true_and, and_true, and_self, or_true, true_or, or_false, false_or] at tr29_913
      simp (disch := decide) only [zuI_nf] at hq29
      obtain ⟨N9, A0, hcl, hx29, hQ29⟩ := hq29
      have f7 := QC_407 hQ29
      have f8 := QC_408 hQ29
      refine zs_istore_n (pc := 32) C dX8_text_32 (by decide) ?_
      dsimp only [zset, zclr, znone]
      refine zs_aload_n (pc := 33) C dX8_text_33 rfl ?_
      refine zs_aload_n (pc := 34) C dX8_text_34 rfl ?_
      refine zs_getf (pc := 35) C dX8_text_35 w_X8_18 f_9_2 (by decide) ?_
      refine zs_geti (r := 407) (pc := 38) C dX8_text_38 w_X8_78 f_4_7 rfl (r_407 0) (fun v38 e38 l38 u38 => ?_)
      refine zs_puti (r := 912) (pc := 41) C dX8_text_41 w_X8_81 f_9_12 rfl (r_912 0) (by omega) ?_
      refine zs_aload_n (pc := 44) C dX8_text_44 rfl ?_
      refine zs_aload_n (pc := 45) C dX8_text_45 rfl ?_
      refine zs_getf (pc := 46) C dX8_text_46 w_X8_18 f_9_2 (by decide) ?_
      refine zs_geti (r := 408) (pc := 49) C dX8_text_49 w_X8_82 f_4_8 rfl (r_408 0) (fun v49 e49 l49 u49 => ?_)
      try simp only [zuI_1, zuI_2, zuJ_1, zuJ_2, zuJ_3, zuP_1, zuP_2, zuP_3, zuC_1, zuC_2, reduceIte, Nat.reduceEqDiff, false_and, and_false, true_and, and_true, and_self, or_true, true_or, or_false, false_or] at e49
      refine zs_puti (r := 913) (pc := 52) C dX8_text_52 w_X8_63 f_9_13 rfl (r_913 0) (by omega) ?_
      refine zs_aload_n (pc := 55) C dX8_text_55 rfl ?_
      refine zs_geti (r := 912) (pc := 56) C dX8_text_56 w_X8_81 f_9_12 rfl (r_912 0) (fun v56 e56 l56 u56 => ?_)
      try simp only [zuI_1, zuI_2, zuJ_1, zuJ_2, zuJ_3, zuP_1, zuP_2, zuP_3, zuC_1, zuC_2, reduceIte, Nat.reduceEqDiff, false_and, and_false, true_and, and_true, and_self, or_true, true_or, or_false, false_or] at e56
      refine zs_if_eq (tgt := 64) (pc := 59) C dX8_text_59 (by decide) (fun h59 => ?_) (fun h59 => ?_)
      · skip
        refine zs_aload_n (pc := 64) C dX8_text_64 rfl ?_
        refine zs_aload_n (pc := 65) C dX8_text_65 rfl ?_
        refine zs_getf (pc := 66) C dX8_text_66 w_X8_18 f_9_2 (by decide) ?_
        refine zs_aload_n (pc := 69) C dX8_text_69 rfl ?_
        refine zs_getd (r := 903) (pc := 70) C dX8_text_70 w_X8_25 f_9_3 (by decide) rfl (fun v70 e70 t70 => ?_)
        try simp only [hz29.2, zuI_1, zuI_2, zuJ_1, zuJ_2, zuJ_3, zuP_1, zuP_2, zuP_3, zuC_1, zuC_2, reduceIte, Nat.reduceEqDiff, false_and, and_false, true_and, and_true, and_self, or_true, true_or, or_false, false_or] at e70
        refine zVa1 (pc := 73) C dX8_text_73 v_X8_83 (c_X3_handOver hX ) (by decide) (by decide) ⟨Nat.zero_le _, Nat.zero_le _⟩ (Nat.le_of_ble_eq_true rfl) (fun x73 G73 hp73 => ?_)
        obtain ⟨hz73, hq73⟩ := hp73
        try simp only [zuI_1, zuI_2, zuJ_1, zuJ_2, zuJ_3, zuP_1, zuP_2, zuP_3, zuC_1, zuC_2, reduceIte, Nat.reduceEqDiff, false_and, and_false, true_and, and_true, and_self, or_true, true_or, or_false, false_or] at hq73
        have tr73_901 := zsn_at hz73 901 w 0 (by decide)
        try simp only [zuI_1, zuI_2, zuJ_1, zuJ_2, zuJ_3, zuP_1, zuP_2, zuP_3, zuC_1, zuC_2, reduceIte, Nat.reduceEqDiff, false_and, and_false, true_and, and_true, and_self, or_true, true_or, or_false, false_or] at tr73_901
        have tr73_912 := zsn_at hz73 912 w 0 (by decide)
        try simp only [zuI_1, zuI_2, zuJ_1, zuJ_2, zuJ_3, zuP_1, zuP_2, zuP_3, zuC_1, zuC_2, reduceIte, Nat.reduceEqDiff, false_and, and_false, true_and, and_true, and_self, or_true, true_or, or_false, false_or] at tr73_912
        have tr73_913 := zsn_at hz73 913 w 0 (by decide)
        try simp only [zuI_1, zuI_2, zuJ_1, zuJ_2, zuJ_3, zuP_1, zuP_2, zuP_3, zuC_1, zuC_2, reduceIte, Nat.reduceEqDiff, false_and, and_false, true_and, and_true, and_self, or_true, true_or, or_false, false_or] at tr73_913
        refine zs_putd (r := 903) (pc := 76) C dX8_text_76 w_X8_25 f_9_3 (by decide) rfl ?_
        refine zs_aload_n (pc := 79) C dX8_text_79 rfl ?_
        refine zs_getf (pc := 80) C dX8_text_80 w_X8_34 f_9_4 (by decide) ?_
        refine zs_aload_n (pc := 83) C dX8_text_83 rfl ?_
        refine zs_getd (r := 903) (pc := 84) C dX8_text_84 w_X8_25 f_9_3 (by decide) rfl (fun v84 e84 t84 => ?_)
        try simp only [zuI_1, zuI_2, zuJ_1, zuJ_2, zuJ_3, zuP_1, zuP_2, zuP_3, zuC_1, zuC_2, reduceIte, Nat.reduceEqDiff, false_and, and_false, true_and, and_true, and_self, or_true, true_or, or_false, false_or] at e84
        refine zVv1 (pc := 87) C dX8_text_87 v_X8_87 (c_X7_beginD hX ) (by decide) (by decide) ⟨Nat.zero_le _, Nat.zero_le _⟩ (Nat.le_of_ble_eq_true rfl) (fun G87 hp87 => ?_)
        obtain ⟨hz87, hq87⟩ := hp87
        try simp only [zuI_1, zuI_2, zuJ_1, zuJ_2, zuJ_3, zuP_1, zuP_2, zuP_3, zuC_1, zuC_2, reduceIte, Nat.reduceEqDiff, false_and, and_false, true_and, and_true, and_self, or_true, true_or, or_false, false_or] at hq87
        have tr87_901 := zsn_at hz87 901 w 0 (by decide)
        try simp only [zuI_1, zuI_2, zuJ_1, zuJ_2, zuJ_3, zuP_1, zuP_2, zuP_3, zuC_1, zuC_2, reduceIte, Nat.reduceEqDiff, false_and, and_false, true_and, and_true, and_self, or_true, true_or, or_false, false_or] at tr87_901
        have tr87_912 := zsn_at hz87 912 w 0 (by decide)
        try simp only [zuI_1, zuI_2, zuJ_1, zuJ_2, zuJ_3, zuP_1, zuP_2, zuP_3, zuC_1, zuC_2, reduceIte, Nat.reduceEqDiff, false_and, and_false, true_and, and_true, and_self, or_true, true_or, or_false, false_or] at tr87_912
        have tr87_913 := zsn_at hz87 913 w 0 (by decide)
        try simp only [zuI_1, zuI_2, zuJ_1, zuJ_2, zuJ_3, zuP_1, zuP_2, zuP_3, zuC_1, zuC_2, reduceIte, Nat.reduceEqDiff, false_and, and_false, true_and, and_true, and_self, or_true, true_or, or_false, false_or] at tr87_913
        have hb1 := hq87.1
        have hb2 := hq87.2
        refine zs_aload_n (pc := 90) C dX8_text_90 rfl ?_
        refine zs_iconst (pc := 91) C dX8_text_91 (by decide) ?_
        refine zs_putz (r := 911) (pc := 92) C dX8_text_92 w_X8_90 f_9_11 rfl (r_911 0) (by omega) (by omega) ?_
        refine zs_aload_n (pc := 95) C dX8_text_95 rfl ?_
        refine zs_iconst (pc := 96) C dX8_text_96 (by decide) ?_
        refine zs_puti (r := 910) (pc := 97) C dX8_text_97 w_X8_94 f_9_10 rfl (r_910 0) (by omega) ?_
        refine zs_aload_n (pc := 100) C dX8_text_100 rfl ?_
        refine zs_getf (pc := 101) C dX8_text_101 w_X8_49 f_9_7 (by decide) ?_
        refine zVv0 (pc := 104) C dX8_text_104 v_X8_97 (c_X2_forget hX ) (by decide) (by decide) ⟨Nat.zero_le _, Nat.zero_le _⟩ (Nat.le_of_ble_eq_true rfl) (fun G104 hp104 => ?_)
        obtain ⟨hz104, hq104⟩ := hp104
        try simp only [zuI_1, zuI_2, zuJ_1, zuJ_2, zuJ_3, zuP_1, zuP_2, zuP_3, zuC_1, zuC_2, reduceIte, Nat.reduceEqDiff, false_and, and_false, true_and, and_true, and_self, or_true, true_or, or_false, false_or] at hq104
        have tr104_901 := zsm_at hz104 901 w 0 (by decide)
        try simp only [zuI_1, zuI_2, zuJ_1, zuJ_2, zuJ_3, zuP_1, zuP_2, zuP_3, zuC_1, zuC_2, reduceIte, Nat.reduceEqDiff, false_and, and_false, true_and, and_true, and_self, or_true, true_or, or_false, false_or] at tr104_901
        have tr104_912 := zsm_at hz104 912 w 0 (by decide)
        try simp only [zuI_1, zuI_2, zuJ_1, zuJ_2, zuJ_3, zuP_1, zuP_2, zuP_3, zuC_1, zuC_2, reduceIte, Nat.reduceEqDiff, false_and, and_false, true_and, and_true, and_self, or_true, true_or, or_false, false_or] at tr104_912
        have tr104_913 := zsm_at hz104 913 w 0 (by decide)
        try simp only [zuI_1, zuI_2, zuJ_1, zuJ_2, zuJ_3, zuP_1, zuP_2, zuP_3, zuC_1, zuC_2, reduceIte, Nat.reduceEqDiff, false_and, and_false, true_and, and_true, and_self, or_true, true_or, or_false, false_or] at tr104_913
        refine zs_iload_n (pc := 107) C dX8_text_107 rfl ?_
        exact zs_iret (pc := 108) C hr hlk dX8_text_108 ⟨by repeat (first | exact zsn_rf | assumption | refine zsn_C (by decide) ?_ | refine zsn_I (by decide) ?_ | refine zsn_J ?_ | refine zsn_P ?_ | refine zsn_m (by assumption) (by decide) ?_ | refine zsn_c (by assumption) (by decide) ?_), ⟨⟨fun _ => ⟨by first | omega | (simp only [zuI_1, zuI_2, zuJ_1, zuJ_2, zuJ_3, zuP_1, zuP_2, zuP_3, zuC_1, zuC_2, reduceIte, Nat.reduceEqDiff, false_and, and_false, true_and, and_true, and_self, or_true, true_or, or_false, false_or] <;> omega), A0, hcl, by first | omega | (simp only [zuI_1, zuI_2, zuJ_1, zuJ_2, zuJ_3, zuP_1, zuP_2, zuP_3, zuC_1, zuC_2, reduceIte, Nat.reduceEqDiff, false_and, and_false, true_and, and_true, and_self, or_true, true_or, or_false, false_or] <;> omega), by first | omega | (simp only [zuI_1, zuI_2, zuJ_1, zuJ_2, zuJ_3, zuP_1, zuP_2, zuP_3, zuC_1, zuC_2, reduceIte, Nat.reduceEqDiff, false_and, and_false, true_and, and_true, and_self, or_true, true_or, or_false, false_or] <;> omega), by rw [if_pos (by omega)]; exact hx29⟩, fun q => by omega⟩, (by refine ⟨fun _ => ⟨?_, ?_⟩, fun q => ?_, fun a9 h9 => ?_⟩; exact (zsn_at (rs := [911, 910, 2020]) (G := G87) (by repeat (first | exact zsn_rf | assumption | refine zsn_C (by decide) ?_ | refine zsn_I (by decide) ?_ | refine zsn_J ?_ | refine zsn_P ?_ | refine zsn_m (by assumption) (by decide) ?_ | refine zsn_c (by assumption) (by decide) ?_)) 809 (Γ.2.1 w 4) 0 (by decide)).trans hb1; (have q3 := zsm_at hz104 911 w 0 (by decide); simp only [zuI_1, zuI_2, zuJ_1, zuJ_2, zuJ_3, zuP_1, zuP_2, zuP_3, zuC_1, zuC_2, reduceIte, Nat.reduceEqDiff, false_and, and_false, true_and, and_true, and_self, or_true, true_or, or_false, false_or] at q3; exact q3); (exfalso; refine q ⟨by omega, by omega, ?_⟩; (first | omega | (exfalso; omega) | (simp only [zuI_1, zuI_2, zuJ_1, zuJ_2, zuJ_3, zuP_1, zuP_2, zuP_3, zuC_1, zuC_2, reduceIte, Nat.reduceEqDiff, false_and, and_false, true_and, and_true, and_self, or_true, true_or, or_false, false_or]; done) | (simp only [zuI_1, zuI_2, zuJ_1, zuJ_2, zuJ_3, zuP_1, zuP_2, zuP_3, zuC_1, zuC_2, reduceIte, Nat.reduceEqDiff, false_and, and_false, true_and, and_true, and_self, or_true, true_or, or_false, false_or]; omega))); exact (zsn_at (rs := [911, 910, 2020]) (G := G87) (by repeat (first | exact zsn_rf | assumption | refine zsn_C (by decide) ?_ | refine zsn_I (by decide) ?_ | refine zsn_J ?_ | refine zsn_P ?_ | refine zsn_m (by assumption) (by decide) ?_ | refine zsn_c (by assumption) (by decide) ?_)) 809 a9 0 (by decide)).trans ((hb2 a9 h9).trans (by first | rfl | exact (zsn_at (rs := [402, 403, 404, 405, 406, 407, 408, 409, 410, 411, 412, 413, 2025, 206, 207, 2014, 2015, 2016, 2017, 2036, 2037, 2038, 2039, 2040, 2041, 2042, 2043, 609, 610, 611, 612, 704, 705, 706, 2045, 2046, 2047, 901, 912, 913, 510, 2048, 2049, 2050, 2051, 2052, 2053, 810, 811, 812, 813, 910, 2020]) (G := G) (by repeat (first | exact zsn_rf | assumption | refine zsn_C (by decide) ?_ | refine zsn_I (by decide) ?_ | refine zsn_J ?_ | refine zsn_P ?_ | refine zsn_m (by assumption) (by decide) ?_ | refine zsn_c (by assumption) (by decide) ?_)) 809 a9 0 (by decide)))))⟩⟩
      · skip
        refine zs_iconst (pc := 62) C dX8_text_62 (by decide) ?_
        exact zs_iret (pc := 63) C hr hlk dX8_text_63 ⟨by repeat (first | exact zsn_rf | assumption | refine zsn_C (by decide) ?_ | refine zsn_I (by decide) ?_ | refine zsn_J ?_ | refine zsn_P ?_ | refine zsn_m (by assumption) (by decide) ?_ | refine zsn_c (by assumption) (by decide) ?_), ⟨⟨fun _ => ⟨by first | omega | (simp only [zuI_1, zuI_2, zuJ_1, zuJ_2, zuJ_3, zuP_1, zuP_2, zuP_3, zuC_1, zuC_2, reduceIte, Nat.reduceEqDiff, false_and, and_false, true_and, and_true, and_self, or_true, true_or, or_false, false_or] <;> omega), A0, hcl, by first | omega | (simp only [zuI_1, zuI_2, zuJ_1, zuJ_2, zuJ_3, zuP_1, zuP_2, zuP_3, zuC_1, zuC_2, reduceIte, Nat.reduceEqDiff, false_and, and_false, true_and, and_true, and_self, or_true, true_or, or_false, false_or] <;> omega), by first | omega | (simp only [zuI_1, zuI_2, zuJ_1, zuJ_2, zuJ_3, zuP_1, zuP_2, zuP_3, zuC_1, zuC_2, reduceIte, Nat.reduceEqDiff, false_and, and_false, true_and, and_true, and_self, or_true, true_or, or_false, false_or] <;> omega), by rw [if_neg (by omega)]⟩, fun q => by omega⟩, (by refine ⟨fun q => ?_, fun _ => ⟨?_, ?_⟩, fun a9 _ => ?_⟩; (exfalso; have q2 := q.2.2; (try simp only [zuI_1, zuI_2, zuJ_1, zuJ_2, zuJ_3, zuP_1, zuP_2, zuP_3, zuC_1, zuC_2, reduceIte, Nat.reduceEqDiff, false_and, and_false, true_and, and_true, and_self, or_true, true_or, or_false, false_or] at q2); omega); exact (zsn_at (rs := [402, 403, 404, 405, 406, 407, 408, 409, 410, 411, 412, 413, 2025, 206, 207, 2014, 2015, 2016, 2017, 2036, 2037, 2038, 2039, 2040, 2041, 2042, 2043, 609, 610, 611, 612, 704, 705, 706, 2045, 2046, 2047, 901, 912, 913, 510, 2048, 2049, 2050, 2051, 2052, 2053, 810, 811, 812, 813, 910, 2020]) (G := G) (by repeat (first | exact zsn_rf | assumption | refine zsn_C (by decide) ?_ | refine zsn_I (by decide) ?_ | refine zsn_J ?_ | refine zsn_P ?_ | refine zsn_m (by assumption) (by decide) ?_ | refine zsn_c (by assumption) (by decide) ?_)) 809 (Γ.2.1 w 4) 0 (by decide)); exact (zsn_at (rs := [402, 403, 404, 405, 406, 407, 408, 409, 410, 411, 412, 413, 2025, 206, 207, 2014, 2015, 2016, 2017, 2036, 2037, 2038, 2039, 2040, 2041, 2042, 2043, 609, 610, 611, 612, 704, 705, 706, 2045, 2046, 2047, 901, 912, 913, 510, 2048, 2049, 2050, 2051, 2052, 2053, 810, 811, 812, 813, 910, 2020]) (G := G) (by repeat (first | exact zsn_rf | assumption | refine zsn_C (by decide) ?_ | refine zsn_I (by decide) ?_ | refine zsn_J ?_ | refine zsn_P ?_ | refine zsn_m (by assumption) (by decide) ?_ | refine zsn_c (by assumption) (by decide) ?_)) 911 w 0 (by decide)); exact (zsn_at (rs := [402, 403, 404, 405, 406, 407, 408, 409, 410, 411, 412, 413, 2025, 206, 207, 2014, 2015, 2016, 2017, 2036, 2037, 2038, 2039, 2040, 2041, 2042, 2043, 609, 610, 611, 612, 704, 705, 706, 2045, 2046, 2047, 901, 912, 913, 510, 2048, 2049, 2050, 2051, 2052, 2053, 810, 811, 812, 813, 910, 2020]) (G := G) (by repeat (first | exact zsn_rf | assumption | refine zsn_C (by decide) ?_ | refine zsn_I (by decide) ?_ | refine zsn_J ?_ | refine zsn_P ?_ | refine zsn_m (by assumption) (by decide) ?_ | refine zsn_c (by assumption) (by decide) ?_)) 809 a9 0 (by decide)))⟩⟩
    · skip
      refine zs_bipush (pc := 12) C dX8_text_12 (by decide) (by decide) ?_
      exact zs_iret (pc := 14) C hr hlk dX8_text_14 ⟨by repeat (first | exact zsn_rf | assumption | refine zsn_C (by decide) ?_ | refine zsn_I (by decide) ?_ | refine zsn_J ?_ | refine zsn_P ?_ | refine zsn_m (by assumption) (by decide) ?_ | refine zsn_c (by assumption) (by decide) ?_), ⟨⟨fun q => by omega, fun _ => ⟨rfl, rfl, rfl, rfl⟩⟩, (by refine ⟨fun q => (by exfalso; omega), fun _ => ⟨rfl, rfl⟩, fun a9 _ => rfl⟩)⟩⟩
