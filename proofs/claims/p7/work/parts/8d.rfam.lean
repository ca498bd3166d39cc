/-- the changing references stay, but those of works to a telling -/
def RF (G G1 : zH) : Prop := ∀ r a : Nat, r ≠ 800 → G1.2.2 r a = G.2.2 r a
theorem RF_rf {G : zH} : RF G G := fun _ _ _ => rfl
theorem RF_c {G G1 G2 : zH} (h2 : RF G1 G2) (h : RF G G1) : RF G G2 := fun r a hr => (h2 r a hr).trans (h r a hr)
theorem RF_m {G G1 G2 : zH} {rs : List Nat} (h2 : zsm rs G1 G2) (h : RF G G1) : RF G G2 := fun r a hr => by rw [h2.2]; exact h r a hr
theorem RF_I {G G1 : zH} {r a i : Nat} {x : Int} (h : RF G G1) : RF G (zuI G1 r a i x) := h
theorem RF_J {G G1 : zH} {r a i : Nat} {x : Int} (h : RF G G1) : RF G (zuJ G1 r a i x) := h
theorem RF_C {G G1 : zH} {r a : Nat} {f : Nat → Int} (h : RF G G1) : RF G (zuC G1 r a f) := h
theorem RF_P {G G1 : zH} {a b : Nat} (h : RF G G1) : RF G (zuP G1 800 a b) := fun r a' hr => by
  rw [zuP_3, if_neg (fun q => hr q.1)]
  exact h r a' hr

set_option maxHeartbeats 4000000 in
set_option maxRecDepth 100000 in
theorem c_X7_beginR {l : Launch} {Γ : zΓ} {G : zH} {w : Nat} {b : Nat} (hX : zXs Γ)  : zMet l Γ yX7_begin cX7_begin 2 none 1 [zr 8 w, zr 6 b] G (zpv (fun G' => zsn [510, 2048, 2049, 2050, 2051, 2052, 2053, 809, 810, 811, 812, 813] G G' ∧ RF G G' ∧ True)) := by
  refine zMet_of RX7 hX (by decide) rfl (Nat.le_of_ble_eq_true rfl) ?_
  intro p e s m args below meth c C hr hlk
  show Z p l e (zrm 1) s m args below meth c Γ 2 0 0 (MQ below (zQc Γ (zpv (fun G' => zsn [510, 2048, 2049, 2050, 2051, 2052, 2053, 809, 810, 811, 812, 813] G G' ∧ RF G G' ∧ True))) args s 0 0 (zA Γ)) 0 [some (zr 8 w), some (zr 6 b)] [] G
  refine zs_aload_n (pc := 0) C dX7_begin_0 rfl ?_
  refine zs_aload_n (pc := 1) C dX7_begin_1 rfl ?_
  refine zs_putd (r := 800) (pc := 2) C dX7_begin_2 w_X7_40 f_8_0 (by decide) rfl ?_
  refine zs_aload_n (pc := 5) C dX7_begin_5 rfl ?_
  refine zs_getf (pc := 6) C dX7_begin_6 w_X7_12 f_8_1 (by decide) ?_
  refine zs_iconst (pc := 9) C dX7_begin_9 (by decide) ?_
  refine zs_puti (r := 510) (pc := 10) C dX7_begin_10 w_X7_48 f_5_10 rfl (r_510 0) (by omega) ?_
  refine zs_aload_n (pc := 13) C dX7_begin_13 rfl ?_
  refine zs_getf (pc := 14) C dX7_begin_14 w_X7_52 f_6_5 (by decide) ?_
  refine zs_iconst (pc := 17) C dX7_begin_17 (by decide) ?_
  refine zs_aload_n (pc := 18) C dX7_begin_18 rfl ?_
  refine zs_getf (pc := 19) C dX7_begin_19 w_X7_18 f_8_2 (by decide) ?_
  refine zs_iconst (pc := 22) C dX7_begin_22 (by decide) ?_
  refine zs_bipush (pc := 23) C dX7_begin_23 (by decide) (by decide) ?_
  refine zs_acopy (r0 := 2040) (r1 := 2048) (pc := 25) C dX7_begin_25 ac_X7_57 a_40 a_48 (by decide) (by decide) (by omega) (by omega) (by omega) (by omega) (by omega) rfl rfl (fun i j => Or.inl (by rw [r_2040, r_2048]; decide)) (by decide) (Nat.le_of_ble_eq_true rfl) ?_
  refine zs_aload_n (pc := 28) C dX7_begin_28 rfl ?_
  refine zs_getf (pc := 29) C dX7_begin_29 w_X7_52 f_6_5 (by decide) ?_
  refine zs_iconst (pc := 32) C dX7_begin_32 (by decide) ?_
  refine zs_aload_n (pc := 33) C dX7_begin_33 rfl ?_
  refine zs_getf (pc := 34) C dX7_begin_34 w_X7_22 f_8_3 (by decide) ?_
  refine zs_iconst (pc := 37) C dX7_begin_37 (by decide) ?_
  refine zs_bipush (pc := 38) C dX7_begin_38 (by decide) (by decide) ?_
  refine zs_acopy (r0 := 2040) (r1 := 2049) (pc := 40) C dX7_begin_40 ac_X7_57 a_40 a_49 (by decide) (by decide) (by omega) (by omega) (by omega) (by omega) (by omega) rfl rfl (fun i j => Or.inl (by rw [r_2040, r_2049]; decide)) (by decide) (Nat.le_of_ble_eq_true rfl) ?_
  refine zs_aload_n (pc := 43) C dX7_begin_43 rfl ?_
  refine zs_getf (pc := 44) C dX7_begin_44 w_X7_25 f_8_4 (by decide) ?_
  refine zs_iconst (pc := 47) C dX7_begin_47 (by decide) ?_
  refine zSv2 (pc := 48) C dX7_begin_48 s_X7_63 (c_J7_fill_53178F hX a_50 (by decide) (by decide) (fun i => by rw [r_2050]; decide)) (by decide) ⟨Nat.zero_le _, Nat.zero_le _⟩ (Nat.le_of_ble_eq_true rfl) (fun G48 hp48 => ?_)
  obtain ⟨hz48, hq48⟩ := hp48
  try simp only [zuI_1, zuI_2, zuJ_1, zuJ_2, zuJ_3, zuP_1, zuP_2, zuP_3, zuC_1, zuC_2, reduceIte, Nat.reduceEqDiff, false_and, and_false, true_and, and_true, and_self, or_true, true_or, or_false, false_or] at hq48
  refine zs_aload_n (pc := 51) C dX7_begin_51 rfl ?_
  refine zs_getf (pc := 52) C dX7_begin_52 w_X7_28 f_8_5 (by decide) ?_
  refine zs_iconst (pc := 55) C dX7_begin_55 (by decide) ?_
  refine zSv2 (pc := 56) C dX7_begin_56 s_X7_63 (c_J7_fill_53178F hX a_51 (by decide) (by decide) (fun i => by rw [r_2051]; decide)) (by decide) ⟨Nat.zero_le _, Nat.zero_le _⟩ (Nat.le_of_ble_eq_true rfl) (fun G56 hp56 => ?_)
  obtain ⟨hz56, hq56⟩ := hp56
  refine zs_aload_n (pc := 59) C dX7_begin_59 rfl ?_
  refine zs_getf (pc := 60) C dX7_begin_60 w_X7_31 f_8_6 (by decide) ?_
  refine zs_iconst (pc := 63) C dX7_begin_63 (by decide) ?_
  refine zSv2 (pc := 64) C dX7_begin_64 s_X7_63 (c_J7_fill_53178F hX a_52 (by decide) (by decide) (fun i => by rw [r_2052]; decide)) (by decide) ⟨Nat.zero_le _, Nat.zero_le _⟩ (Nat.le_of_ble_eq_true rfl) (fun G64 hp64 => ?_)
  obtain ⟨hz64, hq64⟩ := hp64
  refine zs_aload_n (pc := 67) C dX7_begin_67 rfl ?_
  refine zs_getf (pc := 68) C dX7_begin_68 w_X7_34 f_8_7 (by decide) ?_
  refine zs_iconst (pc := 71) C dX7_begin_71 (by decide) ?_
  refine zSv2 (pc := 72) C dX7_begin_72 s_X7_63 (c_J7_fill_53178F hX a_53 (by decide) (by decide) (fun i => by rw [r_2053]; decide)) (by decide) ⟨Nat.zero_le _, Nat.zero_le _⟩ (Nat.le_of_ble_eq_true rfl) (fun G72 hp72 => ?_)
  obtain ⟨hz72, hq72⟩ := hp72
  refine zs_aload_n (pc := 75) C dX7_begin_75 rfl ?_
  refine zs_iconst (pc := 76) C dX7_begin_76 (by decide) ?_
  refine zs_puti (r := 809) (pc := 77) C dX7_begin_77 w_X7_69 f_8_9 rfl (r_809 0) (by omega) ?_
  refine zs_aload_n (pc := 80) C dX7_begin_80 rfl ?_
  refine zs_aload_n (pc := 81) C dX7_begin_81 rfl ?_
  refine zs_geti (r := 609) (pc := 82) C dX7_begin_82 w_X7_72 f_6_9 rfl (r_609 0) (fun v82 e82 l82 u82 => ?_)
  try simp only [zuI_1, zuI_2, zuJ_1, zuJ_2, zuJ_3, zuP_1, zuP_2, zuP_3, zuC_1, zuC_2, reduceIte, Nat.reduceEqDiff, false_and, and_false, true_and, and_true, and_self, or_true, true_or, or_false, false_or] at e82
  refine zs_puti (r := 810) (pc := 85) C dX7_begin_85 w_X7_75 f_8_10 rfl (r_810 0) (by omega) ?_
  refine zs_aload_n (pc := 88) C dX7_begin_88 rfl ?_
  refine zs_aload_n (pc := 89) C dX7_begin_89 rfl ?_
  refine zs_geti (r := 611) (pc := 90) C dX7_begin_90 w_X7_76 f_6_11 rfl (r_611 0) (fun v90 e90 l90 u90 => ?_)
  try simp only [zuI_1, zuI_2, zuJ_1, zuJ_2, zuJ_3, zuP_1, zuP_2, zuP_3, zuC_1, zuC_2, reduceIte, Nat.reduceEqDiff, false_and, and_false, true_and, and_true, and_self, or_true, true_or, or_false, false_or] at e90
  refine zs_puti (r := 811) (pc := 93) C dX7_begin_93 w_X7_79 f_8_11 rfl (r_811 0) (by omega) ?_
  refine zs_aload_n (pc := 96) C dX7_begin_96 rfl ?_
  refine zs_aload_n (pc := 97) C dX7_begin_97 rfl ?_
  refine zs_geti (r := 612) (pc := 98) C dX7_begin_98 w_X7_82 f_6_12 rfl (r_612 0) (fun v98 e98 l98 u98 => ?_)
  try simp only [zuI_1, zuI_2, zuJ_1, zuJ_2, zuJ_3, zuP_1, zuP_2, zuP_3, zuC_1, zuC_2, reduceIte, Nat.reduceEqDiff, false_and, and_false, true_and, and_true, and_self, or_true, true_or, or_false, false_or] at e98
  refine zs_puti (r := 812) (pc := 101) C dX7_begin_101 w_X7_85 f_8_12 rfl (r_812 0) (by omega) ?_
  refine zs_aload_n (pc := 104) C dX7_begin_104 rfl ?_
  refine zs_iconst (pc := 105) C dX7_begin_105 (by decide) ?_
  refine zs_puti (r := 813) (pc := 106) C dX7_begin_106 w_X7_88 f_8_13 rfl (r_813 0) (by omega) ?_
  exact zs_vret (pc := 109) C hr hlk dX7_begin_109 ⟨by repeat (first | exact zsn_rf | assumption | refine zsn_C (by decide) ?_ | refine zsn_I (by decide) ?_ | refine zsn_J ?_ | refine zsn_P ?_ | refine zsn_m (by assumption) (by decide) ?_ | refine zsn_c (by assumption) (by decide) ?_), (by with_reducible repeat (first | exact RF_rf | assumption | apply RF_I | apply RF_J | apply RF_C | apply RF_P | refine RF_c (by assumption) ?_ | refine RF_m (by assumption) ?_)), trivial⟩

set_option maxHeartbeats 4000000 in
set_option maxRecDepth 100000 in
theorem c_X7_copyFromR {l : Launch} {Γ : zΓ} {G : zH} {w : Nat} {b : Nat} (hX : zXs Γ)  : zMet l Γ yX7_copyFrom cX7_copyFrom 2 none 2 [zr 8 w, zr 8 b] G (zpv (fun G' => zsn [510, 2026, 2027, 2028, 2029, 2030, 2031, 2032, 2033, 2034, 2035, 2048, 2049, 2050, 2051, 2052, 2053, 809, 810, 811, 812, 813] G G' ∧ RF G G' ∧ True)) := by
  refine zMet_of RX7 hX (by decide) rfl (Nat.le_of_ble_eq_true rfl) ?_
  intro p e s m args below meth c C hr hlk
  show Z p l e (zrm 2) s m args below meth c Γ 2 0 0 (MQ below (zQc Γ (zpv (fun G' => zsn [510, 2026, 2027, 2028, 2029, 2030, 2031, 2032, 2033, 2034, 2035, 2048, 2049, 2050, 2051, 2052, 2053, 809, 810, 811, 812, 813] G G' ∧ RF G G' ∧ True))) args s 0 0 (zA Γ)) 0 [some (zr 8 w), some (zr 8 b)] [] G
  refine zs_aload_n (pc := 0) C dX7_copyFrom_0 rfl ?_
  refine zs_aload_n (pc := 1) C dX7_copyFrom_1 rfl ?_
  refine zs_getd (r := 800) (pc := 2) C dX7_copyFrom_2 w_X7_40 f_8_0 (by decide) rfl (fun v2 e2 t2 => ?_)
  subst e2
  refine zs_putd (r := 800) (pc := 5) C dX7_copyFrom_5 w_X7_40 f_8_0 (by decide) rfl ?_
  refine zs_aload_n (pc := 8) C dX7_copyFrom_8 rfl ?_
  refine zs_getf (pc := 9) C dX7_copyFrom_9 w_X7_12 f_8_1 (by decide) ?_
  refine zs_aload_n (pc := 12) C dX7_copyFrom_12 rfl ?_
  refine zs_getf (pc := 13) C dX7_copyFrom_13 w_X7_12 f_8_1 (by decide) ?_
  refine zVv1 (pc := 16) C dX7_copyFrom_16 v_X7_91 (c_X4_copyFrom hX ) (by decide) (by decide) ⟨Nat.zero_le _, Nat.zero_le _⟩ (Nat.le_of_ble_eq_true rfl) (fun G16 hp16 => ?_)
  obtain ⟨hz16, hq16⟩ := hp16
  try simp only [zuI_1, zuI_2, zuJ_1, zuJ_2, zuJ_3, zuP_1, zuP_2, zuP_3, zuC_1, zuC_2, reduceIte, Nat.reduceEqDiff, false_and, and_false, true_and, and_true, and_self, or_true, true_or, or_false, false_or] at hq16
  refine zs_aload_n (pc := 19) C dX7_copyFrom_19 rfl ?_
  refine zs_getf (pc := 20) C dX7_copyFrom_20 w_X7_18 f_8_2 (by decide) ?_
  refine zs_iconst (pc := 23) C dX7_copyFrom_23 (by decide) ?_
  refine zs_aload_n (pc := 24) C dX7_copyFrom_24 rfl ?_
  refine zs_getf (pc := 25) C dX7_copyFrom_25 w_X7_18 f_8_2 (by decide) ?_
  refine zs_iconst (pc := 28) C dX7_copyFrom_28 (by decide) ?_
  refine zs_bipush (pc := 29) C dX7_copyFrom_29 (by decide) (by decide) ?_
  refine zs_acopy (r0 := 2048) (r1 := 2048) (pc := 31) C dX7_copyFrom_31 ac_X7_57 a_48 a_48 (by decide) (by decide) (by omega) (by omega) (by omega) (by omega) (by omega) rfl rfl (fun i j => Or.inl (by rw [r_2048, r_2048]; decide)) (by decide) (Nat.le_of_ble_eq_true rfl) ?_
  refine zs_aload_n (pc := 34) C dX7_copyFrom_34 rfl ?_
  refine zs_getf (pc := 35) C dX7_copyFrom_35 w_X7_22 f_8_3 (by decide) ?_
  refine zs_iconst (pc := 38) C dX7_copyFrom_38 (by decide) ?_
  refine zs_aload_n (pc := 39) C dX7_copyFrom_39 rfl ?_
  refine zs_getf (pc := 40) C dX7_copyFrom_40 w_X7_22 f_8_3 (by decide) ?_
  refine zs_iconst (pc := 43) C dX7_copyFrom_43 (by decide) ?_
  refine zs_bipush (pc := 44) C dX7_copyFrom_44 (by decide) (by decide) ?_
  refine zs_acopy (r0 := 2049) (r1 := 2049) (pc := 46) C dX7_copyFrom_46 ac_X7_57 a_49 a_49 (by decide) (by decide) (by omega) (by omega) (by omega) (by omega) (by omega) rfl rfl (fun i j => Or.inl (by rw [r_2049, r_2049]; decide)) (by decide) (Nat.le_of_ble_eq_true rfl) ?_
  refine zs_aload_n (pc := 49) C dX7_copyFrom_49 rfl ?_
  refine zs_getf (pc := 50) C dX7_copyFrom_50 w_X7_25 f_8_4 (by decide) ?_
  refine zs_iconst (pc := 53) C dX7_copyFrom_53 (by decide) ?_
  refine zs_aload_n (pc := 54) C dX7_copyFrom_54 rfl ?_
  refine zs_getf (pc := 55) C dX7_copyFrom_55 w_X7_25 f_8_4 (by decide) ?_
  refine zs_iconst (pc := 58) C dX7_copyFrom_58 (by decide) ?_
  refine zs_iconst (pc := 59) C dX7_copyFrom_59 (by decide) ?_
  refine zs_acopy (r0 := 2050) (r1 := 2050) (pc := 60) C dX7_copyFrom_60 ac_X7_57 a_50 a_50 (by decide) (by decide) (by omega) (by omega) (by omega) (by omega) (by omega) rfl rfl (fun i j => Or.inl (by rw [r_2050, r_2050]; decide)) (by decide) (Nat.le_of_ble_eq_true rfl) ?_
  refine zs_aload_n (pc := 63) C dX7_copyFrom_63 rfl ?_
  refine zs_getf (pc := 64) C dX7_copyFrom_64 w_X7_28 f_8_5 (by decide) ?_
  refine zs_iconst (pc := 67) C dX7_copyFrom_67 (by decide) ?_
  refine zs_aload_n (pc := 68) C dX7_copyFrom_68 rfl ?_
  refine zs_getf (pc := 69) C dX7_copyFrom_69 w_X7_28 f_8_5 (by decide) ?_
  refine zs_iconst (pc := 72) C dX7_copyFrom_72 (by decide) ?_
  refine zs_iconst (pc := 73) C dX7_copyFrom_73 (by decide) ?_
  refine zs_acopy (r0 := 2051) (r1 := 2051) (pc := 74) C dX7_copyFrom_74 ac_X7_57 a_51 a_51 (by decide) (by decide) (by omega) (by omega) (by omega) (by omega) (by omega) rfl rfl (fun i j => Or.inl (by rw [r_2051, r_2051]; decide)) (by decide) (Nat.le_of_ble_eq_true rfl) ?_
  refine zs_aload_n (pc := 77) C dX7_copyFrom_77 rfl ?_
  refine zs_getf (pc := 78) C dX7_copyFrom_78 w_X7_31 f_8_6 (by decide) ?_
  refine zs_iconst (pc := 81) C dX7_copyFrom_81 (by decide) ?_
  refine zs_aload_n (pc := 82) C dX7_copyFrom_82 rfl ?_
  refine zs_getf (pc := 83) C dX7_copyFrom_83 w_X7_31 f_8_6 (by decide) ?_
  refine zs_iconst (pc := 86) C dX7_copyFrom_86 (by decide) ?_
  refine zs_iconst (pc := 87) C dX7_copyFrom_87 (by decide) ?_
  refine zs_acopy (r0 := 2052) (r1 := 2052) (pc := 88) C dX7_copyFrom_88 ac_X7_57 a_52 a_52 (by decide) (by decide) (by omega) (by omega) (by omega) (by omega) (by omega) rfl rfl (fun i j => Or.inl (by rw [r_2052, r_2052]; decide)) (by decide) (Nat.le_of_ble_eq_true rfl) ?_
  refine zs_aload_n (pc := 91) C dX7_copyFrom_91 rfl ?_
  refine zs_getf (pc := 92) C dX7_copyFrom_92 w_X7_34 f_8_7 (by decide) ?_
  refine zs_iconst (pc := 95) C dX7_copyFrom_95 (by decide) ?_
  refine zs_aload_n (pc := 96) C dX7_copyFrom_96 rfl ?_
  refine zs_getf (pc := 97) C dX7_copyFrom_97 w_X7_34 f_8_7 (by decide) ?_
  refine zs_iconst (pc := 100) C dX7_copyFrom_100 (by decide) ?_
  refine zs_iconst (pc := 101) C dX7_copyFrom_101 (by decide) ?_
  refine zs_acopy (r0 := 2053) (r1 := 2053) (pc := 102) C dX7_copyFrom_102 ac_X7_57 a_53 a_53 (by decide) (by decide) (by omega) (by omega) (by omega) (by omega) (by omega) rfl rfl (fun i j => Or.inl (by rw [r_2053, r_2053]; decide)) (by decide) (Nat.le_of_ble_eq_true rfl) ?_
  refine zs_aload_n (pc := 105) C dX7_copyFrom_105 rfl ?_
  refine zs_aload_n (pc := 106) C dX7_copyFrom_106 rfl ?_
  refine zs_geti (r := 809) (pc := 107) C dX7_copyFrom_107 w_X7_69 f_8_9 rfl (r_809 0) (fun v107 e107 l107 u107 => ?_)
  try simp only [zuI_1, zuI_2, zuJ_1, zuJ_2, zuJ_3, zuP_1, zuP_2, zuP_3, zuC_1, zuC_2, reduceIte, Nat.reduceEqDiff, false_and, and_false, true_and, and_true, and_self, or_true, true_or, or_false, false_or] at e107
  refine zs_puti (r := 809) (pc := 110) C dX7_copyFrom_110 w_X7_69 f_8_9 rfl (r_809 0) (by omega) ?_
  refine zs_aload_n (pc := 113) C dX7_copyFrom_113 rfl ?_
  refine zs_aload_n (pc := 114) C dX7_copyFrom_114 rfl ?_
  refine zs_geti (r := 810) (pc := 115) C dX7_copyFrom_115 w_X7_75 f_8_10 rfl (r_810 0) (fun v115 e115 l115 u115 => ?_)
  try simp only [zuI_1, zuI_2, zuJ_1, zuJ_2, zuJ_3, zuP_1, zuP_2, zuP_3, zuC_1, zuC_2, reduceIte, Nat.reduceEqDiff, false_and, and_false, true_and, and_true, and_self, or_true, true_or, or_false, false_or] at e115
  refine zs_puti (r := 810) (pc := 118) C dX7_copyFrom_118 w_X7_75 f_8_10 rfl (r_810 0) (by omega) ?_
  refine zs_aload_n (pc := 121) C dX7_copyFrom_121 rfl ?_
  refine zs_aload_n (pc := 122) C dX7_copyFrom_122 rfl ?_
  refine zs_geti (r := 811) (pc := 123) C dX7_copyFrom_123 w_X7_79 f_8_11 rfl (r_811 0) (fun v123 e123 l123 u123 => ?_)
  try simp only [zuI_1, zuI_2, zuJ_1, zuJ_2, zuJ_3, zuP_1, zuP_2, zuP_3, zuC_1, zuC_2, reduceIte, Nat.reduceEqDiff, false_and, and_false, true_and, and_true, and_self, or_true, true_or, or_false, false_or] at e123
  refine zs_puti (r := 811) (pc := 126) C dX7_copyFrom_126 w_X7_79 f_8_11 rfl (r_811 0) (by omega) ?_
  refine zs_aload_n (pc := 129) C dX7_copyFrom_129 rfl ?_
  refine zs_aload_n (pc := 130) C dX7_copyFrom_130 rfl ?_
  refine zs_geti (r := 812) (pc := 131) C dX7_copyFrom_131 w_X7_85 f_8_12 rfl (r_812 0) (fun v131 e131 l131 u131 => ?_)
  try simp only [zuI_1, zuI_2, zuJ_1, zuJ_2, zuJ_3, zuP_1, zuP_2, zuP_3, zuC_1, zuC_2, reduceIte, Nat.reduceEqDiff, false_and, and_false, true_and, and_true, and_self, or_true, true_or, or_false, false_or] at e131
  refine zs_puti (r := 812) (pc := 134) C dX7_copyFrom_134 w_X7_85 f_8_12 rfl (r_812 0) (by omega) ?_
  refine zs_aload_n (pc := 137) C dX7_copyFrom_137 rfl ?_
  refine zs_aload_n (pc := 138) C dX7_copyFrom_138 rfl ?_
  refine zs_geti (r := 813) (pc := 139) C dX7_copyFrom_139 w_X7_88 f_8_13 rfl (r_813 0) (fun v139 e139 l139 u139 => ?_)
  try simp only [zuI_1, zuI_2, zuJ_1, zuJ_2, zuJ_3, zuP_1, zuP_2, zuP_3, zuC_1, zuC_2, reduceIte, Nat.reduceEqDiff, false_and, and_false, true_and, and_true, and_self, or_true, true_or, or_false, false_or] at e139
  refine zs_puti (r := 813) (pc := 142) C dX7_copyFrom_142 w_X7_88 f_8_13 rfl (r_813 0) (by omega) ?_
  exact zs_vret (pc := 145) C hr hlk dX7_copyFrom_145 ⟨by repeat (first | exact zsn_rf | assumption | refine zsn_C (by decide) ?_ | refine zsn_I (by decide) ?_ | refine zsn_J ?_ | refine zsn_P ?_ | refine zsn_m (by assumption) (by decide) ?_ | refine zsn_c (by assumption) (by decide) ?_), (by with_reducible repeat (first | exact RF_rf | assumption | apply RF_I | apply RF_J | apply RF_C | apply RF_P | refine RF_c (by assumption) ?_ | refine RF_m (by assumption) ?_)), trivial⟩

set_option maxHeartbeats 4000000 in
set_option maxRecDepth 100000 in
theorem c_X2_planForR {l : Launch} {Γ : zΓ} {G : zH} {w b : Nat} {k : Int} (hX : zXs Γ) (hc : 0 ≤ k ∧ k ≤ 4) : zMet l Γ yX2_planFor cX2_planFor 4 none 18 [zr 3 w, zr 8 b, zi k] G (zpv (fun G' => zsn [306, 307, 510, 809, 810, 811, 812, 813, 2020, 2021, 2022, 2023, 2024, 2026, 2027, 2028, 2029, 2030, 2031, 2032, 2033, 2034, 2035, 2048, 2049, 2050, 2051, 2052, 2053] G G' ∧ RF G G' ∧ True)) := by
  refine zMet_of RX2 hX (by decide) rfl (Nat.le_of_ble_eq_true rfl) ?_
  intro p e s m args below meth c C hr hlk
  show Z p l e (zrm 18) s m args below meth c Γ 4 0 0 (MQ below (zQc Γ (zpv (fun G' => zsn [306, 307, 510, 809, 810, 811, 812, 813, 2020, 2021, 2022, 2023, 2024, 2026, 2027, 2028, 2029, 2030, 2031, 2032, 2033, 2034, 2035, 2048, 2049, 2050, 2051, 2052, 2053] G G' ∧ RF G G' ∧ True))) args s 0 0 (zA Γ)) 0 [some (zr 3 w), some (zr 8 b), some (zi k), none] [] G
  refine zs_loc 2 rfl (fun ha2 hb2 => ?_)
  refine zs_aload_n (pc := 0) C dX2_planFor_0 rfl ?_
  refine zs_getf (pc := 1) C dX2_planFor_1 w_X2_9 f_3_1 (by decide) ?_
  refine zs_iload_n (pc := 4) C dX2_planFor_4 rfl ?_
  refine zs_iald (r := 2020) (pc := 5) C dX2_planFor_5 a_20 (by decide) (by omega) rfl (r_2020 _) (fun v5 e5 l5 u5 => ?_)
  refine zs_if_eq (tgt := 10) (pc := 6) C dX2_planFor_6 (by decide) (fun h6 => ?_) (fun h6 => ?_)
  · skip
    refine zs_aload_n (pc := 10) C dX2_planFor_10 rfl ?_
    refine zs_getf (pc := 11) C dX2_planFor_11 w_X2_9 f_3_1 (by decide) ?_
    refine zs_iload_n (pc := 14) C dX2_planFor_14 rfl ?_
    refine zs_iconst (pc := 15) C dX2_planFor_15 (by decide) ?_
    refine zs_iast (r := 2020) (pc := 16) C dX2_planFor_16 a_20 (by decide) (by omega) rfl (r_2020 _) (by omega) ?_
    refine zs_aload_n (pc := 17) C dX2_planFor_17 rfl ?_
    refine zs_iload_n (pc := 18) C dX2_planFor_18 rfl ?_
    refine zs_puti (r := 306) (pc := 19) C dX2_planFor_19 w_X2_37 f_3_6 rfl (r_306 0) (by omega) ?_
    refine zs_aload_n (pc := 22) C dX2_planFor_22 rfl ?_
    refine zs_getf (pc := 23) C dX2_planFor_23 w_X2_15 f_3_2 (by decide) ?_
    refine zs_aload_n (pc := 26) C dX2_planFor_26 rfl ?_
    refine zs_geti (r := 306) (pc := 27) C dX2_planFor_27 w_X2_37 f_3_6 rfl (r_306 0) (fun v27 e27 l27 u27 => ?_)
    try simp only [zuI_1, zuI_2, zuJ_1, zuJ_2, zuJ_3, zuP_1, zuP_2, zuP_3, zuC_1, zuC_2, reduceIte, Nat.reduceEqDiff, false_and, and_false, true_and, and_true, and_self, or_true, true_or, or_false, false_or] at e27
    refine zs_iconst (pc := 30) C dX2_planFor_30 (by decide) ?_
    refine zs_iast (r := 2021) (pc := 31) C dX2_planFor_31 a_21 (by decide) (by omega) rfl (r_2021 _) (by omega) ?_
    refine zs_aload_n (pc := 32) C dX2_planFor_32 rfl ?_
    refine zs_getf (pc := 33) C dX2_planFor_33 w_X2_18 f_3_3 (by decide) ?_
    refine zs_aload_n (pc := 36) C dX2_planFor_36 rfl ?_
    refine zs_geti (r := 306) (pc := 37) C dX2_planFor_37 w_X2_37 f_3_6 rfl (r_306 0) (fun v37 e37 l37 u37 => ?_)
    try simp only [zuI_1, zuI_2, zuJ_1, zuJ_2, zuJ_3, zuP_1, zuP_2, zuP_3, zuC_1, zuC_2, reduceIte, Nat.reduceEqDiff, false_and, and_false, true_and, and_true, and_self, or_true, true_or, or_false, false_or] at e37
    refine zs_iconst (pc := 40) C dX2_planFor_40 (by decide) ?_
    refine zs_iast (r := 2022) (pc := 41) C dX2_planFor_41 a_22 (by decide) (by omega) rfl (r_2022 _) (by omega) ?_
    refine zs_aload_n (pc := 42) C dX2_planFor_42 rfl ?_
    refine zs_getf (pc := 43) C dX2_planFor_43 w_X2_27 f_3_0 (by decide) ?_
    refine zs_aload_n (pc := 46) C dX2_planFor_46 rfl ?_
    refine zVv1 (pc := 47) C dX2_planFor_47 v_X2_41 (c_X7_copyFromR hX ) (by decide) (by decide) ⟨Nat.zero_le _, Nat.zero_le _⟩ (Nat.le_of_ble_eq_true rfl) (fun G47 hp47 => ?_)
    obtain ⟨hz47, lo47, hq47⟩ := hp47
    try simp only [zuI_1, zuI_2, zuJ_1, zuJ_2, zuJ_3, zuP_1, zuP_2, zuP_3, zuC_1, zuC_2, reduceIte, Nat.reduceEqDiff, false_and, and_false, true_and, and_true, and_self, or_true, true_or, or_false, false_or] at hq47
    refine zs_aload_n (pc := 50) C dX2_planFor_50 rfl ?_
    refine zs_aload_n (pc := 51) C dX2_planFor_51 rfl ?_
    refine zs_getd (r := 800) (pc := 52) C dX2_planFor_52 w_X2_47 f_8_0 (by decide) rfl (fun v52 e52 t52 => ?_)
    refine zs_getf (pc := 55) C dX2_planFor_55 w_X2_51 f_6_6 (by decide) ?_
    refine zs_aload_n (pc := 58) C dX2_planFor_58 rfl ?_
    refine zs_geti (r := 306) (pc := 59) C dX2_planFor_59 w_X2_37 f_3_6 rfl (r_306 0) (fun v59 e59 l59 u59 => ?_)
    refine zs_iald (r := 2041) (pc := 62) C dX2_planFor_62 a_41 (by decide) (by omega) rfl (r_2041 _) (fun v62 e62 l62 u62 => ?_)
    refine zs_puti (r := 307) (pc := 63) C dX2_planFor_63 w_X2_56 f_3_7 rfl (r_307 0) (by omega) ?_
    refine zs_aload_n (pc := 66) C dX2_planFor_66 rfl ?_
    refine zs_getd (r := 800) (pc := 67) C dX2_planFor_67 w_X2_47 f_8_0 (by decide) rfl (fun v67 e67 t67 => ?_)
    try simp only [zuI_1, zuI_2, zuJ_1, zuJ_2, zuJ_3, zuP_1, zuP_2, zuP_3, zuC_1, zuC_2, reduceIte, Nat.reduceEqDiff, false_and, and_false, true_and, and_true, and_self, or_true, true_or, or_false, false_or] at e67
    refine zs_getf (pc := 70) C dX2_planFor_70 w_X2_59 f_6_7 (by decide) ?_
    refine zs_aload_n (pc := 73) C dX2_planFor_73 rfl ?_
    refine zs_geti (r := 306) (pc := 74) C dX2_planFor_74 w_X2_37 f_3_6 rfl (r_306 0) (fun v74 e74 l74 u74 => ?_)
    try simp only [zuI_1, zuI_2, zuJ_1, zuJ_2, zuJ_3, zuP_1, zuP_2, zuP_3, zuC_1, zuC_2, reduceIte, Nat.reduceEqDiff, false_and, and_false, true_and, and_true, and_self, or_true, true_or, or_false, false_or] at e74
    refine zs_iald (r := 2042) (pc := 77) C dX2_planFor_77 a_42 (by decide) (by omega) rfl (r_2042 _) (fun v77 e77 l77 u77 => ?_)
    try simp only [zuI_1, zuI_2, zuJ_1, zuJ_2, zuJ_3, zuP_1, zuP_2, zuP_3, zuC_1, zuC_2, reduceIte, Nat.reduceEqDiff, false_and, and_false, true_and, and_true, and_self, or_true, true_or, or_false, false_or] at e77
    refine zs_aload_n (pc := 78) C dX2_planFor_78 rfl ?_
    refine zs_getf (pc := 79) C dX2_planFor_79 w_X2_62 f_8_1 (by decide) ?_
    refine zs_aload_n (pc := 82) C dX2_planFor_82 rfl ?_
    refine zs_geti (r := 307) (pc := 83) C dX2_planFor_83 w_X2_56 f_3_7 rfl (r_307 0) (fun v83 e83 l83 u83 => ?_)
    try simp only [zuI_1, zuI_2, zuJ_1, zuJ_2, zuJ_3, zuP_1, zuP_2, zuP_3, zuC_1, zuC_2, reduceIte, Nat.reduceEqDiff, false_and, and_false, true_and, and_true, and_self, or_true, true_or, or_false, false_or] at e83
    refine zVip1 (pc := 86) C dX2_planFor_86 v_X2_66 (c_X4_flourFrom hX ) (by decide) (by decide) ⟨Nat.zero_le _, Nat.zero_le _⟩ (Nat.le_of_ble_eq_true rfl) (fun x86 l86 u86 hp86 => ?_)
    have hq86 := hp86
    try simp only [zuI_1, zuI_2, zuJ_1, zuJ_2, zuJ_3, zuP_1, zuP_2, zuP_3, zuC_1, zuC_2, reduceIte, Nat.reduceEqDiff, false_and, and_false, true_and, and_true, and_self, or_true, true_or, or_false, false_or] at hq86
    first | refine zs_isub (pc := 89) C dX2_planFor_89 (by omega) ?_ | refine zs_isubF (pc := 89) C dX2_planFor_89 (fun z89 hz891 hz892 => ?_)
    refine zs_istore_n (pc := 90) C dX2_planFor_90 (by decide) ?_
    dsimp only [zset, zclr, znone]
    refine zs_iload_n (pc := 91) C dX2_planFor_91 rfl ?_
    refine zs_if_gt (tgt := 104) (pc := 92) C dX2_planFor_92 (by decide) (fun h92 => ?_) (fun h92 => ?_)
    · skip
      refine zs_aload_n (pc := 104) C dX2_planFor_104 rfl ?_
      refine zs_iconst (pc := 105) C dX2_planFor_105 (by decide) ?_
      refine zs_iconst (pc := 106) C dX2_planFor_106 (by decide) ?_
      refine zs_iload_n (pc := 107) C dX2_planFor_107 rfl ?_
      refine zVip3 (pc := 108) C dX2_planFor_108 v_X2_76 (c_X2_isHopeful hX ) (by decide) (by decide) ⟨Nat.zero_le _, Nat.zero_le _⟩ (Nat.le_of_ble_eq_true rfl) (fun x108 l108 u108 hp108 => ?_)
      have hq108 := hp108
      try simp only [zuI_1, zuI_2, zuJ_1, zuJ_2, zuJ_3, zuP_1, zuP_2, zuP_3, zuC_1, zuC_2, reduceIte, Nat.reduceEqDiff, false_and, and_false, true_and, and_true, and_self, or_true, true_or, or_false, false_or] at hq108
      refine zs_if_eq (tgt := 121) (pc := 111) C dX2_planFor_111 (by decide) (fun h111 => ?_) (fun h111 => ?_)
      · skip
        exact zs_vret (pc := 121) C hr hlk dX2_planFor_121 ⟨by repeat (first | exact zsn_rf | assumption | refine zsn_C (by decide) ?_ | refine zsn_I (by decide) ?_ | refine zsn_J ?_ | refine zsn_P ?_ | refine zsn_m (by assumption) (by decide) ?_ | refine zsn_c (by assumption) (by decide) ?_), (by with_reducible repeat (first | exact RF_rf | assumption | apply RF_I | apply RF_J | apply RF_C | apply RF_P | refine RF_c (by assumption) ?_ | refine RF_m (by assumption) ?_)), trivial⟩
      · skip
        refine zs_aload_n (pc := 114) C dX2_planFor_114 rfl ?_
        refine zs_iconst (pc := 115) C dX2_planFor_115 (by decide) ?_
        refine zs_iconst (pc := 116) C dX2_planFor_116 (by decide) ?_
        refine zs_iload_n (pc := 117) C dX2_planFor_117 rfl ?_
        refine zVv3 (pc := 118) C dX2_planFor_118 v_X2_80 (c_X2_seek hX (by first | omega | (simp only [zuI_1, zuI_2, zuJ_1, zuJ_2, zuJ_3, zuP_1, zuP_2, zuP_3, zuC_1, zuC_2, reduceIte, Nat.reduceEqDiff, false_and, and_false, true_and, and_true, and_self, or_true, true_or, or_false, false_or]; omega))) (by decide) (by decide) ⟨Nat.zero_le _, Nat.zero_le _⟩ (Nat.le_of_ble_eq_true rfl) (fun G118 hp118 => ?_)
        obtain ⟨hz118, hq118⟩ := hp118
        try simp only [zuI_1, zuI_2, zuJ_1, zuJ_2, zuJ_3, zuP_1, zuP_2, zuP_3, zuC_1, zuC_2, reduceIte, Nat.reduceEqDiff, false_and, and_false, true_and, and_true, and_self, or_true, true_or, or_false, false_or] at hq118
        exact zs_vret (pc := 121) C hr hlk dX2_planFor_121 ⟨by repeat (first | exact zsn_rf | assumption | refine zsn_C (by decide) ?_ | refine zsn_I (by decide) ?_ | refine zsn_J ?_ | refine zsn_P ?_ | refine zsn_m (by assumption) (by decide) ?_ | refine zsn_c (by assumption) (by decide) ?_), (by with_reducible repeat (first | exact RF_rf | assumption | apply RF_I | apply RF_J | apply RF_C | apply RF_P | refine RF_c (by assumption) ?_ | refine RF_m (by assumption) ?_)), trivial⟩
    · skip
      refine zs_aload_n (pc := 95) C dX2_planFor_95 rfl ?_
      refine zs_iconst (pc := 96) C dX2_planFor_96 (by decide) ?_
      refine zs_iconst (pc := 97) C dX2_planFor_97 (by decide) ?_
      refine zVv2 (pc := 98) C dX2_planFor_98 v_X2_72 (c_X2_take hX ) (by decide) (by decide) ⟨Nat.zero_le _, Nat.zero_le _⟩ (Nat.le_of_ble_eq_true rfl) (fun G98 hp98 => ?_)
      obtain ⟨hz98, hq98⟩ := hp98
      try simp only [zuI_1, zuI_2, zuJ_1, zuJ_2, zuJ_3, zuP_1, zuP_2, zuP_3, zuC_1, zuC_2, reduceIte, Nat.reduceEqDiff, false_and, and_false, true_and, and_true, and_self, or_true, true_or, or_false, false_or] at hq98
      refine zs_goto (tgt := 121) (pc := 101) C dX2_planFor_101 (by decide) ?_
      exact zs_vret (pc := 121) C hr hlk dX2_planFor_121 ⟨by repeat (first | exact zsn_rf | assumption | refine zsn_C (by decide) ?_ | refine zsn_I (by decide) ?_ | refine zsn_J ?_ | refine zsn_P ?_ | refine zsn_m (by assumption) (by decide) ?_ | refine zsn_c (by assumption) (by decide) ?_), (by with_reducible repeat (first | exact RF_rf | assumption | apply RF_I | apply RF_J | apply RF_C | apply RF_P | refine RF_c (by assumption) ?_ | refine RF_m (by assumption) ?_)), trivial⟩
  · skip
    exact zs_vret (pc := 9) C hr hlk dX2_planFor_9 ⟨by repeat (first | exact zsn_rf | assumption | refine zsn_C (by decide) ?_ | refine zsn_I (by decide) ?_ | refine zsn_J ?_ | refine zsn_P ?_ | refine zsn_m (by assumption) (by decide) ?_ | refine zsn_c (by assumption) (by decide) ?_), (by with_reducible repeat (first | exact RF_rf | assumption | apply RF_I | apply RF_J | apply RF_C | apply RF_P | refine RF_c (by assumption) ?_ | refine RF_m (by assumption) ?_)), trivial⟩

set_option maxHeartbeats 4000000 in
set_option maxRecDepth 100000 in
theorem c_X8_putFourFR {l : Launch} {Γ : zΓ} {G : zH} {w : Nat} {a : Int} (hX : zXs Γ) (hk : G.1 901 w 0 + 4 ≤ 700) : zMet l Γ yX8_putFour cX8_putFour 3 none 0 [zr 9 w, zi a] G (zpv (fun G' => zsn [901, 2055] G G' ∧ RF G G' ∧ (G'.1 901 w 0 = G.1 901 w 0 + 4 ∧ ∀ i : Nat, G'.1 2055 (Γ.2.1 w 0) i = if G.1 901 w 0 ≤ (i : Int) ∧ (i : Int) < G.1 901 w 0 + 4 then byt a (24 - 8 * ((i : Int) - G.1 901 w 0)) else G.1 2055 (Γ.2.1 w 0) i))) := by
  refine zMet_of RX8 hX (by decide) rfl (Nat.le_of_ble_eq_true rfl) ?_
  intro p e s m args below meth c C hr hlk
  show Z p l e (zrm 0) s m args below meth c Γ 3 0 0 (MQ below (zQc Γ (zpv (fun G' => zsn [901, 2055] G G' ∧ RF G G' ∧ (G'.1 901 w 0 = G.1 901 w 0 + 4 ∧ ∀ i : Nat, G'.1 2055 (Γ.2.1 w 0) i = if G.1 901 w 0 ≤ (i : Int) ∧ (i : Int) < G.1 901 w 0 + 4 then byt a (24 - 8 * ((i : Int) - G.1 901 w 0)) else G.1 2055 (Γ.2.1 w 0) i)))) args s 0 0 (zA Γ)) 0 [some (zr 9 w), some (zi a), none] [] G
  refine zs_loc 1 rfl (fun ha1 hb1 => ?_)
  refine zs_bipush (pc := 0) C dX8_putFour_0 (by decide) (by decide) ?_
  refine zs_istore_n (pc := 2) C dX8_putFour_2 (by decide) ?_
  dsimp only [zset, zclr, znone]
  have L3 : ∀ (nn : Nat) (x2 : Int) (G1 : zH), (((x2 = 24 ∧ G1.1 901 w 0 = G.1 901 w 0) ∨ (x2 = 16 ∧ G1.1 901 w 0 = G.1 901 w 0 + 1) ∨ (x2 = 8 ∧ G1.1 901 w 0 = G.1 901 w 0 + 2) ∨ (x2 = 0 ∧ G1.1 901 w 0 = G.1 901 w 0 + 3) ∨ (x2 = -8 ∧ G1.1 901 w 0 = G.1 901 w 0 + 4))) → (zsn [901, 2055] G G1) → (∀ i : Nat, G1.1 2055 (Γ.2.1 w 0) i = if G.1 901 w 0 ≤ (i : Int) ∧ (i : Int) < G1.1 901 w 0 then byt a (24 - 8 * ((i : Int) - G.1 901 w 0)) else G.1 2055 (Γ.2.1 w 0) i) → (RF G G1) → (x2 + 8).toNat < nn → Z p l e (zrm 0) s m args below meth c Γ 3 0 0 (MQ below (zQc Γ (zpv (fun G' => zsn [901, 2055] G G' ∧ RF G G' ∧ (G'.1 901 w 0 = G.1 901 w 0 + 4 ∧ ∀ i : Nat, G'.1 2055 (Γ.2.1 w 0) i = if G.1 901 w 0 ≤ (i : Int) ∧ (i : Int) < G.1 901 w 0 + 4 then byt a (24 - 8 * ((i : Int) - G.1 901 w 0)) else G.1 2055 (Γ.2.1 w 0) i)))) args s 0 0 (zA Γ)) 3 [some (zr 9 w), some (zi a), some (zi x2)] [] G1 := by
    intro nn
    induction nn with
    | zero => intro x2 G1 h3_0 h3_1 h3_2 h3_3 hm; exact absurd hm (Nat.not_lt_zero _)
    | succ nn ih3 =>
      intro x2 G1 h3_0 h3_1 h3_2 h3_3 hm3
      refine zs_iload_n (pc := 3) C dX8_putFour_3 rfl ?_
      refine zs_if_lt (tgt := 49) (pc := 4) C dX8_putFour_4 (by decide) (fun h4 => ?_) (fun h4 => ?_)
      · skip
        exact zs_vret (pc := 49) C hr hlk dX8_putFour_49 ⟨by repeat (first | exact zsn_rf | assumption | refine zsn_C (by decide) ?_ | refine zsn_I (by decide) ?_ | refine zsn_J ?_ | refine zsn_P ?_ | refine zsn_m (by assumption) (by decide) ?_ | refine zsn_c (by assumption) (by decide) ?_), (by with_reducible repeat (first | exact RF_rf | assumption | apply RF_I | apply RF_J | apply RF_C | apply RF_P | refine RF_c (by assumption) ?_ | refine RF_m (by assumption) ?_)), (by first | exact ⟨by omega, fun i => by have h9 := h3_2 i; rw [show G1.1 901 w 0 = G.1 901 w 0 + 4 by omega] at h9; exact h9⟩ | (exfalso; omega))⟩
      · skip
        refine zs_aload_n (pc := 7) C dX8_putFour_7 rfl ?_
        refine zs_geti (r := 901) (pc := 8) C dX8_putFour_8 w_X8_67 f_9_1 rfl (r_901 0) (fun v8 e8 l8 u8 => ?_)
        refine zs_sipush (pc := 11) C dX8_putFour_11 (by decide) (by decide) ?_
        refine zs_icmp_ge (tgt := 49) (pc := 14) C dX8_putFour_14 (by decide) (fun h14 => ?_) (fun h14 => ?_)
        · skip
          exact zs_vret (pc := 49) C hr hlk dX8_putFour_49 ⟨by repeat (first | exact zsn_rf | assumption | refine zsn_C (by decide) ?_ | refine zsn_I (by decide) ?_ | refine zsn_J ?_ | refine zsn_P ?_ | refine zsn_m (by assumption) (by decide) ?_ | refine zsn_c (by assumption) (by decide) ?_), (by with_reducible repeat (first | exact RF_rf | assumption | apply RF_I | apply RF_J | apply RF_C | apply RF_P | refine RF_c (by assumption) ?_ | refine RF_m (by assumption) ?_)), (by first | exact ⟨by omega, fun i => by have h9 := h3_2 i; rw [show G1.1 901 w 0 = G.1 901 w 0 + 4 by omega] at h9; exact h9⟩ | (exfalso; omega))⟩
        · skip
          refine zs_aload_n (pc := 17) C dX8_putFour_17 rfl ?_
          refine zs_getf (pc := 18) C dX8_putFour_18 w_X8_11 f_9_0 (by decide) ?_
          refine zs_aload_n (pc := 21) C dX8_putFour_21 rfl ?_
          refine zs_geti (r := 901) (pc := 22) C dX8_putFour_22 w_X8_67 f_9_1 rfl (r_901 0) (fun v22 e22 l22 u22 => ?_)
          refine zs_iload_n (pc := 25) C dX8_putFour_25 rfl ?_
          refine zs_iload_n (pc := 26) C dX8_putFour_26 rfl ?_
          refine zs_iushrX (pc := 27) C dX8_putFour_27 (fun z27 ez27 hz271 hz272 => ?_)
          refine zs_sipush (pc := 28) C dX8_putFour_28 (by decide) (by decide) ?_
          refine zs_iandX (pc := 31) C dX8_putFour_31 (fun z31 ez31 hz311 hz312 => ?_)
          have hby : 0 ≤ z31 ∧ z31 ≤ 255 := by rw [ez31, ez27, byt_u (by omega)]; exact byt_in _ _
          refine zs_iast (r := 2055) (pc := 32) C dX8_putFour_32 a_55 (by decide) (by omega) rfl (r_2055 _) (by omega) ?_
          refine zs_aload_n (pc := 33) C dX8_putFour_33 rfl ?_
          refine zs_dupa (pc := 34) C dX8_putFour_34 ?_
          refine zs_geti (r := 901) (pc := 35) C dX8_putFour_35 w_X8_67 f_9_1 rfl (r_901 0) (fun v35 e35 l35 u35 => ?_)
          try simp only [zuI_1, zuI_2, zuJ_1, zuJ_2, zuJ_3, zuP_1, zuP_2, zuP_3, zuC_1, zuC_2, reduceIte, Nat.reduceEqDiff, false_and, and_false, true_and, and_true, and_self, or_true, true_or, or_false, false_or] at e35
          refine zs_iconst (pc := 38) C dX8_putFour_38 (by decide) ?_
          first | refine zs_iadd (pc := 39) C dX8_putFour_39 (by omega) ?_ | refine zs_iaddF (pc := 39) C dX8_putFour_39 (fun z39 hz391 hz392 => ?_)
          refine zs_puti (r := 901) (pc := 40) C dX8_putFour_40 w_X8_67 f_9_1 rfl (r_901 0) (by omega) ?_
          first | refine zs_iinc (pc := 43) C dX8_putFour_43 rfl (by decide) (by omega) ?_ | refine zs_iincF (pc := 43) C dX8_putFour_43 rfl (by decide) (fun z43 hz431 hz432 => ?_)
          dsimp only [zset, zclr, znone]
          refine zs_goto (tgt := 3) (pc := 46) C dX8_putFour_46 (by decide) ?_
          exact zs_wk (ih3 _ _ (by first | omega | (simp only [zuI_1, zuI_2, zuJ_1, zuJ_2, zuJ_3, zuP_1, zuP_2, zuP_3, zuC_1, zuC_2, reduceIte, Nat.reduceEqDiff, false_and, and_false, true_and, and_true, and_self, or_true, true_or, or_false, false_or]; omega)) (by repeat (first | exact zsn_rf | assumption | refine zsn_C (by decide) ?_ | refine zsn_I (by decide) ?_ | refine zsn_J ?_ | refine zsn_P ?_ | refine zsn_m (by assumption) (by decide) ?_ | refine zsn_c (by assumption) (by decide) ?_)) (by simp only [zuI_1, zuI_2, zuJ_1, zuJ_2, zuJ_3, zuP_1, zuP_2, zuP_3, zuC_1, zuC_2, reduceIte, Nat.reduceEqDiff, false_and, and_false, true_and, and_true, and_self, or_true, true_or, or_false, false_or, e35]; exact fill_step h3_2 (by omega) (by omega) (by rw [ez31, ez27, byt_u (by omega)]; congr 1; omega)) (by with_reducible repeat (first | exact RF_rf | assumption | apply RF_I | apply RF_J | apply RF_C | apply RF_P | refine RF_c (by assumption) ?_ | refine RF_m (by assumption) ?_)) (by first | omega | (simp only [zuI_1, zuI_2, zuJ_1, zuJ_2, zuJ_3, zuP_1, zuP_2, zuP_3, zuC_1, zuC_2, reduceIte, Nat.reduceEqDiff, false_and, and_false, true_and, and_true, and_self, or_true, true_or, or_false, false_or]; omega))) (zwk_s rfl (zwk_s rfl (zwk_s rfl zwk_0)))
  exact zs_wk (L3 _ _ _ (by first | omega | (simp only [zuI_1, zuI_2, zuJ_1, zuJ_2, zuJ_3, zuP_1, zuP_2, zuP_3, zuC_1, zuC_2, reduceIte, Nat.reduceEqDiff, false_and, and_false, true_and, and_true, and_self, or_true, true_or, or_false, false_or]; omega)) (by repeat (first | exact zsn_rf | assumption | refine zsn_C (by decide) ?_ | refine zsn_I (by decide) ?_ | refine zsn_J ?_ | refine zsn_P ?_ | refine zsn_m (by assumption) (by decide) ?_ | refine zsn_c (by assumption) (by decide) ?_)) (fun i => by rw [if_neg (by omega)]) (by with_reducible repeat (first | exact RF_rf | assumption | apply RF_I | apply RF_J | apply RF_C | apply RF_P | refine RF_c (by assumption) ?_ | refine RF_m (by assumption) ?_)) (Nat.lt_succ_self _)) (zwk_s rfl (zwk_s rfl (zwk_s rfl zwk_0)))

set_option maxHeartbeats 4000000 in
set_option maxRecDepth 100000 in
theorem c_X8_feedFR {l : Launch} {Γ : zΓ} {G : zH} {w : Nat} {a1 a2 a3 a4 a5 : Int} (hX : zXs Γ)  : zMet l Γ yX8_feed cX8_feed 6 (some .int) 1 [zr 9 w, zi a1, zi a2, zi a3, zi a4, zi a5] G (zpi (fun x G' => zsn [901, 2055] G G' ∧ RF G G' ∧ ((G.1 901 w 0 + 20 > 700 → x = -1 ∧ G'.1 901 w 0 = G.1 901 w 0 ∧ ∀ i : Nat, G'.1 2055 (Γ.2.1 w 0) i = G.1 2055 (Γ.2.1 w 0) i) ∧ (G.1 901 w 0 + 20 ≤ 700 → x = G.1 901 w 0 + 20 ∧ G'.1 901 w 0 = G.1 901 w 0 + 20 ∧ ∀ i : Nat, G'.1 2055 (Γ.2.1 w 0) i = if G.1 901 w 0 ≤ (i : Int) ∧ (i : Int) < G.1 901 w 0 + 20 then ff a1 a2 a3 a4 a5 ((i : Int) - G.1 901 w 0) else G.1 2055 (Γ.2.1 w 0) i)))) := by
  refine zMet_of RX8 hX (by decide) rfl (Nat.le_of_ble_eq_true rfl) ?_
  intro p e s m args below meth c C hr hlk
  show Z p l e (zrm 1) s m args below meth c Γ 6 0 0 (MQ below (zQc Γ (zpi (fun x G' => zsn [901, 2055] G G' ∧ RF G G' ∧ ((G.1 901 w 0 + 20 > 700 → x = -1 ∧ G'.1 901 w 0 = G.1 901 w 0 ∧ ∀ i : Nat, G'.1 2055 (Γ.2.1 w 0) i = G.1 2055 (Γ.2.1 w 0) i) ∧ (G.1 901 w 0 + 20 ≤ 700 → x = G.1 901 w 0 + 20 ∧ G'.1 901 w 0 = G.1 901 w 0 + 20 ∧ ∀ i : Nat, G'.1 2055 (Γ.2.1 w 0) i = if G.1 901 w 0 ≤ (i : Int) ∧ (i : Int) < G.1 901 w 0 + 20 then ff a1 a2 a3 a4 a5 ((i : Int) - G.1 901 w 0) else G.1 2055 (Γ.2.1 w 0) i))))) args s 0 0 (zA Γ)) 0 [some (zr 9 w), some (zi a1), some (zi a2), some (zi a3), some (zi a4), some (zi a5)] [] G
  refine zs_loc 1 rfl (fun ha1 hb1 => ?_)
  refine zs_loc 2 rfl (fun ha2 hb2 => ?_)
  refine zs_loc 3 rfl (fun ha3 hb3 => ?_)
  refine zs_loc 4 rfl (fun ha4 hb4 => ?_)
  refine zs_loc 5 rfl (fun ha5 hb5 => ?_)
  refine zs_aload_n (pc := 0) C dX8_feed_0 rfl ?_
  refine zs_geti (r := 901) (pc := 1) C dX8_feed_1 w_X8_67 f_9_1 rfl (r_901 0) (fun v1 e1 l1 u1 => ?_)
  refine zs_bipush (pc := 4) C dX8_feed_4 (by decide) (by decide) ?_
  first | refine zs_iadd (pc := 6) C dX8_feed_6 (by omega) ?_ | refine zs_iaddF (pc := 6) C dX8_feed_6 (fun z6 hz61 hz62 => ?_)
  refine zs_sipush (pc := 7) C dX8_feed_7 (by decide) (by decide) ?_
  refine zs_icmp_le (tgt := 15) (pc := 10) C dX8_feed_10 (by decide) (fun h10 => ?_) (fun h10 => ?_)
  · skip
    refine zs_aload_n (pc := 15) C dX8_feed_15 rfl ?_
    refine zs_iload_n (pc := 16) C dX8_feed_16 rfl ?_
    refine zVv1 (pc := 17) C dX8_feed_17 v_X8_70 (c_X8_putFourFR hX (by omega)) (by decide) (by decide) ⟨Nat.zero_le _, Nat.zero_le _⟩ (Nat.le_of_ble_eq_true rfl) (fun G17 hp17 => ?_)
    obtain ⟨hz17, lo17, hq17⟩ := hp17
    refine zs_aload_n (pc := 20) C dX8_feed_20 rfl ?_
    refine zs_iload_n (pc := 21) C dX8_feed_21 rfl ?_
    refine zVv1 (pc := 22) C dX8_feed_22 v_X8_70 (c_X8_putFourFR hX (by omega)) (by decide) (by decide) ⟨Nat.zero_le _, Nat.zero_le _⟩ (Nat.le_of_ble_eq_true rfl) (fun G22 hp22 => ?_)
    obtain ⟨hz22, lo22, hq22⟩ := hp22
    refine zs_aload_n (pc := 25) C dX8_feed_25 rfl ?_
    refine zs_iload_n (pc := 26) C dX8_feed_26 rfl ?_
    refine zVv1 (pc := 27) C dX8_feed_27 v_X8_70 (c_X8_putFourFR hX (by omega)) (by decide) (by decide) ⟨Nat.zero_le _, Nat.zero_le _⟩ (Nat.le_of_ble_eq_true rfl) (fun G27 hp27 => ?_)
    obtain ⟨hz27, lo27, hq27⟩ := hp27
    refine zs_aload_n (pc := 30) C dX8_feed_30 rfl ?_
    refine zs_iload (pc := 31) C dX8_feed_31 rfl ?_
    refine zVv1 (pc := 33) C dX8_feed_33 v_X8_70 (c_X8_putFourFR hX (by omega)) (by decide) (by decide) ⟨Nat.zero_le _, Nat.zero_le _⟩ (Nat.le_of_ble_eq_true rfl) (fun G33 hp33 => ?_)
    obtain ⟨hz33, lo33, hq33⟩ := hp33
    refine zs_aload_n (pc := 36) C dX8_feed_36 rfl ?_
    refine zs_iload (pc := 37) C dX8_feed_37 rfl ?_
    refine zVv1 (pc := 39) C dX8_feed_39 v_X8_70 (c_X8_putFourFR hX (by omega)) (by decide) (by decide) ⟨Nat.zero_le _, Nat.zero_le _⟩ (Nat.le_of_ble_eq_true rfl) (fun G39 hp39 => ?_)
    obtain ⟨hz39, lo39, hq39⟩ := hp39
    refine zs_aload_n (pc := 42) C dX8_feed_42 rfl ?_
    refine zs_geti (r := 901) (pc := 43) C dX8_feed_43 w_X8_67 f_9_1 rfl (r_901 0) (fun v43 e43 l43 u43 => ?_)
    exact zs_iret (pc := 46) C hr hlk dX8_feed_46 ⟨by repeat (first | exact zsn_rf | assumption | refine zsn_C (by decide) ?_ | refine zsn_I (by decide) ?_ | refine zsn_J ?_ | refine zsn_P ?_ | refine zsn_m (by assumption) (by decide) ?_ | refine zsn_c (by assumption) (by decide) ?_), (by with_reducible repeat (first | exact RF_rf | assumption | apply RF_I | apply RF_J | apply RF_C | apply RF_P | refine RF_c (by assumption) ?_ | refine RF_m (by assumption) ?_)), fun h1 => (by first | (exfalso; omega) | exact ⟨rfl, rfl, fun i => rfl⟩), fun h1 => (by first | (exfalso; omega) | (refine ⟨by omega, by omega, fun i => ?_⟩; rw [hq39.2 i, hq33.2 i, hq27.2 i, hq22.2 i, hq17.2 i]; unfold ff; (repeat' split) <;> first | rfl | (exfalso; omega) | (congr 1; omega)))⟩
  · skip
    refine zs_iconst (pc := 13) C dX8_feed_13 (by decide) ?_
    exact zs_iret (pc := 14) C hr hlk dX8_feed_14 ⟨by repeat (first | exact zsn_rf | assumption | refine zsn_C (by decide) ?_ | refine zsn_I (by decide) ?_ | refine zsn_J ?_ | refine zsn_P ?_ | refine zsn_m (by assumption) (by decide) ?_ | refine zsn_c (by assumption) (by decide) ?_), (by with_reducible repeat (first | exact RF_rf | assumption | apply RF_I | apply RF_J | apply RF_C | apply RF_P | refine RF_c (by assumption) ?_ | refine RF_m (by assumption) ?_)), fun h1 => (by first | (exfalso; omega) | exact ⟨rfl, rfl, fun i => rfl⟩), fun h1 => (by first | (exfalso; omega) | (refine ⟨by omega, by omega, fun i => ?_⟩; rw [hq39.2 i, hq33.2 i, hq27.2 i, hq22.2 i, hq17.2 i]; unfold ff; (repeat' split) <;> first | rfl | (exfalso; omega) | (congr 1; omega)))⟩

set_option maxHeartbeats 4000000 in
set_option maxRecDepth 100000 in
theorem c_X8_fineR {l : Launch} {Γ : zΓ} {G : zH} {w : Nat} {p0 s0 : Int} (hX : zXs Γ)  : zMet l Γ yX8_fine cX8_fine 3 (some .int) 4 [zr 9 w, zi p0, zi s0] G (zpi (fun x G' => zsn [] G G' ∧ RF G G' ∧ True)) := by
  refine zMet_of RX8 hX (by decide) rfl (Nat.le_of_ble_eq_true rfl) ?_
  intro p e s m args below meth c C hr hlk
  show Z p l e (zrm 4) s m args below meth c Γ 3 0 0 (MQ below (zQc Γ (zpi (fun x G' => zsn [] G G' ∧ RF G G' ∧ True))) args s 0 0 (zA Γ)) 0 [some (zr 9 w), some (zi p0), some (zi s0)] [] G
  refine zs_loc 1 rfl (fun ha1 hb1 => ?_)
  refine zs_loc 2 rfl (fun ha2 hb2 => ?_)
  refine zs_aload_n (pc := 0) C dX8_fine_0 rfl ?_
  refine zs_getd (r := 903) (pc := 1) C dX8_fine_1 w_X8_25 f_9_3 (by decide) rfl (fun v1 e1 t1 => ?_)
  refine zs_iload_n (pc := 4) C dX8_fine_4 rfl ?_
  refine zs_iload_n (pc := 5) C dX8_fine_5 rfl ?_
  refine zVip2 (pc := 6) C dX8_fine_6 v_X8_136 (c_X5_hasBoth hX ) (by decide) (by decide) ⟨Nat.zero_le _, Nat.zero_le _⟩ (Nat.le_of_ble_eq_true rfl) (fun x6 l6 u6 hp6 => ?_)
  have hq6 := hp6
  refine zs_if_eq (tgt := 24) (pc := 9) C dX8_fine_9 (by decide) (fun h9 => ?_) (fun h9 => ?_)
  · skip
    refine zs_iconst (pc := 24) C dX8_fine_24 (by decide) ?_
    exact zs_iret (pc := 25) C hr hlk dX8_fine_25 ⟨by repeat (first | exact zsn_rf | assumption | refine zsn_C (by decide) ?_ | refine zsn_I (by decide) ?_ | refine zsn_J ?_ | refine zsn_P ?_ | refine zsn_m (by assumption) (by decide) ?_ | refine zsn_c (by assumption) (by decide) ?_), (by with_reducible repeat (first | exact RF_rf | assumption | apply RF_I | apply RF_J | apply RF_C | apply RF_P | refine RF_c (by assumption) ?_ | refine RF_m (by assumption) ?_)), trivial⟩
  · skip
    refine zs_aload_n (pc := 12) C dX8_fine_12 rfl ?_
    refine zs_getf (pc := 13) C dX8_fine_13 w_X8_34 f_9_4 (by decide) ?_
    refine zs_iload_n (pc := 16) C dX8_fine_16 rfl ?_
    refine zs_iload_n (pc := 17) C dX8_fine_17 rfl ?_
    refine zVi2 (pc := 18) C dX8_fine_18 v_X8_145 (c_X7_fineOf hX (by omega) (by omega)) (by decide) (by decide) ⟨Nat.zero_le _, Nat.zero_le _⟩ (Nat.le_of_ble_eq_true rfl) (fun x18 G18 l18 u18 hp18 => ?_)
    obtain ⟨hz18, hq18⟩ := hp18
    refine zs_goto (tgt := 25) (pc := 21) C dX8_fine_21 (by decide) ?_
    exact zs_iret (pc := 25) C hr hlk dX8_fine_25 ⟨by repeat (first | exact zsn_rf | assumption | refine zsn_C (by decide) ?_ | refine zsn_I (by decide) ?_ | refine zsn_J ?_ | refine zsn_P ?_ | refine zsn_m (by assumption) (by decide) ?_ | refine zsn_c (by assumption) (by decide) ?_), (by with_reducible repeat (first | exact RF_rf | assumption | apply RF_I | apply RF_J | apply RF_C | apply RF_P | refine RF_c (by assumption) ?_ | refine RF_m (by assumption) ?_)), trivial⟩

set_option maxHeartbeats 4000000 in
set_option maxRecDepth 100000 in
theorem c_X8_lawR {l : Launch} {Γ : zΓ} {G : zH} {w : Nat} {k p0 s0 : Int} (hX : zXs Γ)  : zMet l Γ yX8_law cX8_law 4 (some .long) 3 [zr 9 w, zi k, zi p0, zi s0] G (zpj (fun x G' => zsn [] G G' ∧ RF G G' ∧ True)) := by
  refine zMet_of RX8 hX (by decide) rfl (Nat.le_of_ble_eq_true rfl) ?_
  intro p e s m args below meth c C hr hlk
  show Z p l e (zrm 3) s m args below meth c Γ 4 0 0 (MQ below (zQc Γ (zpj (fun x G' => zsn [] G G' ∧ RF G G' ∧ True))) args s 0 0 (zA Γ)) 0 [some (zr 9 w), some (zi k), some (zi p0), some (zi s0)] [] G
  refine zs_loc 1 rfl (fun ha1 hb1 => ?_)
  refine zs_loc 2 rfl (fun ha2 hb2 => ?_)
  refine zs_loc 3 rfl (fun ha3 hb3 => ?_)
  refine zs_iload_n (pc := 0) C dX8_law_0 rfl ?_
  refine zs_name (fun y1 ey1 => ?_)
  rcases (show y1 = 0 ∨ y1 = 1 ∨ y1 = 2 ∨ y1 = 3 ∨ (y1 < 0 ∨ 3 < y1) by omega) with h1 | h1 | h1 | h1 | h1
  · skip
    refine zs_tabIn (pc := 1) (tgt := 32) C 0 dX8_law_1 h1 (by decide) rfl (by decide) ?_
    refine zs_aload_n (pc := 32) C dX8_law_32 rfl ?_
    refine zs_getd (r := 903) (pc := 33) C dX8_law_33 w_X8_25 f_9_3 (by decide) rfl (fun v33 e33 t33 => ?_)
    refine zs_iload_n (pc := 36) C dX8_law_36 rfl ?_
    refine zs_iload_n (pc := 37) C dX8_law_37 rfl ?_
    refine zVip2 (pc := 38) C dX8_law_38 v_X8_136 (c_X5_hasBoth hX ) (by decide) (by decide) ⟨Nat.zero_le _, Nat.zero_le _⟩ (Nat.le_of_ble_eq_true rfl) (fun x38 l38 u38 hp38 => ?_)
    have hq38 := hp38
    refine zs_if_eq (tgt := 57) (pc := 41) C dX8_law_41 (by decide) (fun h41 => ?_) (fun h41 => ?_)
    · skip
      refine zs_ldc2 (n := -9223372036854775808) (pc := 57) C dX8_law_57 q_X8_152 (by decide) (by decide) ?_
      exact zs_lret (pc := 60) C hr hlk dX8_law_60 ⟨by repeat (first | exact zsn_rf | assumption | refine zsn_C (by decide) ?_ | refine zsn_I (by decide) ?_ | refine zsn_J ?_ | refine zsn_P ?_ | refine zsn_m (by assumption) (by decide) ?_ | refine zsn_c (by assumption) (by decide) ?_), (by with_reducible repeat (first | exact RF_rf | assumption | apply RF_I | apply RF_J | apply RF_C | apply RF_P | refine RF_c (by assumption) ?_ | refine RF_m (by assumption) ?_)), trivial⟩
    · skip
      refine zs_aload_n (pc := 44) C dX8_law_44 rfl ?_
      refine zs_getf (pc := 45) C dX8_law_45 w_X8_34 f_9_4 (by decide) ?_
      refine zs_iload_n (pc := 48) C dX8_law_48 rfl ?_
      refine zs_iload_n (pc := 49) C dX8_law_49 rfl ?_
      refine zs_iload_n (pc := 50) C dX8_law_50 rfl ?_
      refine zVj3 (pc := 51) C dX8_law_51 v_X8_148 (c_X7_valueOf hX (by omega) (by omega)) (by decide) (by decide) ⟨Nat.zero_le _, Nat.zero_le _⟩ (Nat.le_of_ble_eq_true rfl) (fun x51 G51 l51 u51 hp51 => ?_)
      obtain ⟨hz51, hq51⟩ := hp51
      refine zs_goto (tgt := 60) (pc := 54) C dX8_law_54 (by decide) ?_
      exact zs_lret (pc := 60) C hr hlk dX8_law_60 ⟨by repeat (first | exact zsn_rf | assumption | refine zsn_C (by decide) ?_ | refine zsn_I (by decide) ?_ | refine zsn_J ?_ | refine zsn_P ?_ | refine zsn_m (by assumption) (by decide) ?_ | refine zsn_c (by assumption) (by decide) ?_), (by with_reducible repeat (first | exact RF_rf | assumption | apply RF_I | apply RF_J | apply RF_C | apply RF_P | refine RF_c (by assumption) ?_ | refine RF_m (by assumption) ?_)), trivial⟩
  · skip
    refine zs_tabIn (pc := 1) (tgt := 32) C 1 dX8_law_1 h1 (by decide) rfl (by decide) ?_
    refine zs_aload_n (pc := 32) C dX8_law_32 rfl ?_
    refine zs_getd (r := 903) (pc := 33) C dX8_law_33 w_X8_25 f_9_3 (by decide) rfl (fun v33 e33 t33 => ?_)
    refine zs_iload_n (pc := 36) C dX8_law_36 rfl ?_
    refine zs_iload_n (pc := 37) C dX8_law_37 rfl ?_
    refine zVip2 (pc := 38) C dX8_law_38 v_X8_136 (c_X5_hasBoth hX ) (by decide) (by decide) ⟨Nat.zero_le _, Nat.zero_le _⟩ (Nat.le_of_ble_eq_true rfl) (fun x38 l38 u38 hp38 => ?_)
    have hq38 := hp38
    refine zs_if_eq (tgt := 57) (pc := 41) C dX8_law_41 (by decide) (fun h41 => ?_) (fun h41 => ?_)
    · skip
      refine zs_ldc2 (n := -9223372036854775808) (pc := 57) C dX8_law_57 q_X8_152 (by decide) (by decide) ?_
      exact zs_lret (pc := 60) C hr hlk dX8_law_60 ⟨by repeat (first | exact zsn_rf | assumption | refine zsn_C (by decide) ?_ | refine zsn_I (by decide) ?_ | refine zsn_J ?_ | refine zsn_P ?_ | refine zsn_m (by assumption) (by decide) ?_ | refine zsn_c (by assumption) (by decide) ?_), (by with_reducible repeat (first | exact RF_rf | assumption | apply RF_I | apply RF_J | apply RF_C | apply RF_P | refine RF_c (by assumption) ?_ | refine RF_m (by assumption) ?_)), trivial⟩
    · skip
      refine zs_aload_n (pc := 44) C dX8_law_44 rfl ?_
      refine zs_getf (pc := 45) C dX8_law_45 w_X8_34 f_9_4 (by decide) ?_
      refine zs_iload_n (pc := 48) C dX8_law_48 rfl ?_
      refine zs_iload_n (pc := 49) C dX8_law_49 rfl ?_
      refine zs_iload_n (pc := 50) C dX8_law_50 rfl ?_
      refine zVj3 (pc := 51) C dX8_law_51 v_X8_148 (c_X7_valueOf hX (by omega) (by omega)) (by decide) (by decide) ⟨Nat.zero_le _, Nat.zero_le _⟩ (Nat.le_of_ble_eq_true rfl) (fun x51 G51 l51 u51 hp51 => ?_)
      obtain ⟨hz51, hq51⟩ := hp51
      refine zs_goto (tgt := 60) (pc := 54) C dX8_law_54 (by decide) ?_
      exact zs_lret (pc := 60) C hr hlk dX8_law_60 ⟨by repeat (first | exact zsn_rf | assumption | refine zsn_C (by decide) ?_ | refine zsn_I (by decide) ?_ | refine zsn_J ?_ | refine zsn_P ?_ | refine zsn_m (by assumption) (by decide) ?_ | refine zsn_c (by assumption) (by decide) ?_), (by with_reducible repeat (first | exact RF_rf | assumption | apply RF_I | apply RF_J | apply RF_C | apply RF_P | refine RF_c (by assumption) ?_ | refine RF_m (by assumption) ?_)), trivial⟩
  · skip
    refine zs_tabIn (pc := 1) (tgt := 61) C 2 dX8_law_1 h1 (by decide) rfl (by decide) ?_
    refine zs_aload_n (pc := 61) C dX8_law_61 rfl ?_
    refine zs_getd (r := 903) (pc := 62) C dX8_law_62 w_X8_25 f_9_3 (by decide) rfl (fun v62 e62 t62 => ?_)
    refine zs_iload_n (pc := 65) C dX8_law_65 rfl ?_
    refine zs_iload_n (pc := 66) C dX8_law_66 rfl ?_
    refine zVip2 (pc := 67) C dX8_law_67 v_X8_136 (c_X5_hasBoth hX ) (by decide) (by decide) ⟨Nat.zero_le _, Nat.zero_le _⟩ (Nat.le_of_ble_eq_true rfl) (fun x67 l67 u67 hp67 => ?_)
    have hq67 := hp67
    refine zs_if_eq (tgt := 98) (pc := 70) C dX8_law_70 (by decide) (fun h70 => ?_) (fun h70 => ?_)
    · skip
      refine zs_ldc2 (n := -9223372036854775808) (pc := 98) C dX8_law_98 q_X8_152 (by decide) (by decide) ?_
      exact zs_lret (pc := 101) C hr hlk dX8_law_101 ⟨by repeat (first | exact zsn_rf | assumption | refine zsn_C (by decide) ?_ | refine zsn_I (by decide) ?_ | refine zsn_J ?_ | refine zsn_P ?_ | refine zsn_m (by assumption) (by decide) ?_ | refine zsn_c (by assumption) (by decide) ?_), (by with_reducible repeat (first | exact RF_rf | assumption | apply RF_I | apply RF_J | apply RF_C | apply RF_P | refine RF_c (by assumption) ?_ | refine RF_m (by assumption) ?_)), trivial⟩
    · skip
      refine zs_aload_n (pc := 73) C dX8_law_73 rfl ?_
      refine zs_getf (pc := 74) C dX8_law_74 w_X8_34 f_9_4 (by decide) ?_
      refine zs_iload_n (pc := 77) C dX8_law_77 rfl ?_
      refine zs_iload_n (pc := 78) C dX8_law_78 rfl ?_
      refine zVip2 (pc := 79) C dX8_law_79 v_X8_142 (c_X7_leftOf hX (by omega) (by omega)) (by decide) (by decide) ⟨Nat.zero_le _, Nat.zero_le _⟩ (Nat.le_of_ble_eq_true rfl) (fun x79 l79 u79 hp79 => ?_)
      have hq79 := hp79
      refine zs_if_le (tgt := 98) (pc := 82) C dX8_law_82 (by decide) (fun h82 => ?_) (fun h82 => ?_)
      · skip
        refine zs_ldc2 (n := -9223372036854775808) (pc := 98) C dX8_law_98 q_X8_152 (by decide) (by decide) ?_
        exact zs_lret (pc := 101) C hr hlk dX8_law_101 ⟨by repeat (first | exact zsn_rf | assumption | refine zsn_C (by decide) ?_ | refine zsn_I (by decide) ?_ | refine zsn_J ?_ | refine zsn_P ?_ | refine zsn_m (by assumption) (by decide) ?_ | refine zsn_c (by assumption) (by decide) ?_), (by with_reducible repeat (first | exact RF_rf | assumption | apply RF_I | apply RF_J | apply RF_C | apply RF_P | refine RF_c (by assumption) ?_ | refine RF_m (by assumption) ?_)), trivial⟩
      · skip
        refine zs_aload_n (pc := 85) C dX8_law_85 rfl ?_
        refine zs_getf (pc := 86) C dX8_law_86 w_X8_34 f_9_4 (by decide) ?_
        refine zs_iload_n (pc := 89) C dX8_law_89 rfl ?_
        refine zs_iload_n (pc := 90) C dX8_law_90 rfl ?_
        refine zs_iload_n (pc := 91) C dX8_law_91 rfl ?_
        refine zVj3 (pc := 92) C dX8_law_92 v_X8_148 (c_X7_valueOf hX (by omega) (by omega)) (by decide) (by decide) ⟨Nat.zero_le _, Nat.zero_le _⟩ (Nat.le_of_ble_eq_true rfl) (fun x92 G92 l92 u92 hp92 => ?_)
        obtain ⟨hz92, hq92⟩ := hp92
        refine zs_goto (tgt := 101) (pc := 95) C dX8_law_95 (by decide) ?_
        exact zs_lret (pc := 101) C hr hlk dX8_law_101 ⟨by repeat (first | exact zsn_rf | assumption | refine zsn_C (by decide) ?_ | refine zsn_I (by decide) ?_ | refine zsn_J ?_ | refine zsn_P ?_ | refine zsn_m (by assumption) (by decide) ?_ | refine zsn_c (by assumption) (by decide) ?_), (by with_reducible repeat (first | exact RF_rf | assumption | apply RF_I | apply RF_J | apply RF_C | apply RF_P | refine RF_c (by assumption) ?_ | refine RF_m (by assumption) ?_)), trivial⟩
  · skip
    refine zs_tabIn (pc := 1) (tgt := 102) C 3 dX8_law_1 h1 (by decide) rfl (by decide) ?_
    refine zs_aload_n (pc := 102) C dX8_law_102 rfl ?_
    refine zs_getd (r := 903) (pc := 103) C dX8_law_103 w_X8_25 f_9_3 (by decide) rfl (fun v103 e103 t103 => ?_)
    refine zs_iconst (pc := 106) C dX8_law_106 (by decide) ?_
    refine zs_iload_n (pc := 107) C dX8_law_107 rfl ?_
    refine zVip2 (pc := 108) C dX8_law_108 v_X8_104 (c_X5_has hX (by omega)) (by decide) (by decide) ⟨Nat.zero_le _, Nat.zero_le _⟩ (Nat.le_of_ble_eq_true rfl) (fun x108 l108 u108 hp108 => ?_)
    have hq108 := hp108
    refine zs_if_eq (tgt := 143) (pc := 111) C dX8_law_111 (by decide) (fun h111 => ?_) (fun h111 => ?_)
    · skip
      refine zs_ldc2 (n := -9223372036854775808) (pc := 143) C dX8_law_143 q_X8_152 (by decide) (by decide) ?_
      exact zs_lret (pc := 146) C hr hlk dX8_law_146 ⟨by repeat (first | exact zsn_rf | assumption | refine zsn_C (by decide) ?_ | refine zsn_I (by decide) ?_ | refine zsn_J ?_ | refine zsn_P ?_ | refine zsn_m (by assumption) (by decide) ?_ | refine zsn_c (by assumption) (by decide) ?_), (by with_reducible repeat (first | exact RF_rf | assumption | apply RF_I | apply RF_J | apply RF_C | apply RF_P | refine RF_c (by assumption) ?_ | refine RF_m (by assumption) ?_)), trivial⟩
    · skip
      refine zs_aload_n (pc := 114) C dX8_law_114 rfl ?_
      refine zs_getd (r := 903) (pc := 115) C dX8_law_115 w_X8_25 f_9_3 (by decide) rfl (fun v115 e115 t115 => ?_)
      refine zs_iconst (pc := 118) C dX8_law_118 (by decide) ?_
      refine zs_iload_n (pc := 119) C dX8_law_119 rfl ?_
      refine zVip2 (pc := 120) C dX8_law_120 v_X8_104 (c_X5_has hX (by omega)) (by decide) (by decide) ⟨Nat.zero_le _, Nat.zero_le _⟩ (Nat.le_of_ble_eq_true rfl) (fun x120 l120 u120 hp120 => ?_)
      have hq120 := hp120
      refine zs_if_eq (tgt := 143) (pc := 123) C dX8_law_123 (by decide) (fun h123 => ?_) (fun h123 => ?_)
      · skip
        refine zs_ldc2 (n := -9223372036854775808) (pc := 143) C dX8_law_143 q_X8_152 (by decide) (by decide) ?_
        exact zs_lret (pc := 146) C hr hlk dX8_law_146 ⟨by repeat (first | exact zsn_rf | assumption | refine zsn_C (by decide) ?_ | refine zsn_I (by decide) ?_ | refine zsn_J ?_ | refine zsn_P ?_ | refine zsn_m (by assumption) (by decide) ?_ | refine zsn_c (by assumption) (by decide) ?_), (by with_reducible repeat (first | exact RF_rf | assumption | apply RF_I | apply RF_J | apply RF_C | apply RF_P | refine RF_c (by assumption) ?_ | refine RF_m (by assumption) ?_)), trivial⟩
      · skip
        refine zs_iload_n (pc := 126) C dX8_law_126 rfl ?_
        refine zs_iload_n (pc := 127) C dX8_law_127 rfl ?_
        refine zs_icmp_ge (tgt := 143) (pc := 128) C dX8_law_128 (by decide) (fun h128 => ?_) (fun h128 => ?_)
        · skip
          refine zs_ldc2 (n := -9223372036854775808) (pc := 143) C dX8_law_143 q_X8_152 (by decide) (by decide) ?_
          exact zs_lret (pc := 146) C hr hlk dX8_law_146 ⟨by repeat (first | exact zsn_rf | assumption | refine zsn_C (by decide) ?_ | refine zsn_I (by decide) ?_ | refine zsn_J ?_ | refine zsn_P ?_ | refine zsn_m (by assumption) (by decide) ?_ | refine zsn_c (by assumption) (by decide) ?_), (by with_reducible repeat (first | exact RF_rf | assumption | apply RF_I | apply RF_J | apply RF_C | apply RF_P | refine RF_c (by assumption) ?_ | refine RF_m (by assumption) ?_)), trivial⟩
        · skip
          refine zs_aload_n (pc := 131) C dX8_law_131 rfl ?_
          refine zs_getf (pc := 132) C dX8_law_132 w_X8_34 f_9_4 (by decide) ?_
          refine zs_iload_n (pc := 135) C dX8_law_135 rfl ?_
          refine zs_iload_n (pc := 136) C dX8_law_136 rfl ?_
          refine zVj2 (pc := 137) C dX8_law_137 v_X8_154 (c_X7_pairValue hX (by omega) (by omega)) (by decide) (by decide) ⟨Nat.zero_le _, Nat.zero_le _⟩ (Nat.le_of_ble_eq_true rfl) (fun x137 G137 l137 u137 hp137 => ?_)
          obtain ⟨hz137, hq137⟩ := hp137
          refine zs_goto (tgt := 146) (pc := 140) C dX8_law_140 (by decide) ?_
          exact zs_lret (pc := 146) C hr hlk dX8_law_146 ⟨by repeat (first | exact zsn_rf | assumption | refine zsn_C (by decide) ?_ | refine zsn_I (by decide) ?_ | refine zsn_J ?_ | refine zsn_P ?_ | refine zsn_m (by assumption) (by decide) ?_ | refine zsn_c (by assumption) (by decide) ?_), (by with_reducible repeat (first | exact RF_rf | assumption | apply RF_I | apply RF_J | apply RF_C | apply RF_P | refine RF_c (by assumption) ?_ | refine RF_m (by assumption) ?_)), trivial⟩
  · skip
    refine zs_tabOut (tgt := 147) (pc := 1) C dX8_law_1 h1 (by decide) ?_
    refine zs_ldc2 (n := -9223372036854775808) (pc := 147) C dX8_law_147 q_X8_152 (by decide) (by decide) ?_
    exact zs_lret (pc := 150) C hr hlk dX8_law_150 ⟨by repeat (first | exact zsn_rf | assumption | refine zsn_C (by decide) ?_ | refine zsn_I (by decide) ?_ | refine zsn_J ?_ | refine zsn_P ?_ | refine zsn_m (by assumption) (by decide) ?_ | refine zsn_c (by assumption) (by decide) ?_), (by with_reducible repeat (first | exact RF_rf | assumption | apply RF_I | apply RF_J | apply RF_C | apply RF_P | refine RF_c (by assumption) ?_ | refine RF_m (by assumption) ?_)), trivial⟩

set_option maxHeartbeats 4000000 in
set_option maxRecDepth 100000 in
theorem c_X8_rememberR {l : Launch} {Γ : zΓ} {G : zH} {w : Nat} {k : Int} (hX : zXs Γ) (hk : 0 ≤ k ∧ k ≤ 25) : zMet l Γ yX8_remember cX8_remember 2 none 2 [zr 9 w, zi k] G (zpv (fun G' => zsn [2020, 2056, 910] G G' ∧ RF G G' ∧ True)) := by
  refine zMet_of RX8 hX (by decide) rfl (Nat.le_of_ble_eq_true rfl) ?_
  intro p e s m args below meth c C hr hlk
  show Z p l e (zrm 2) s m args below meth c Γ 2 0 0 (MQ below (zQc Γ (zpv (fun G' => zsn [2020, 2056, 910] G G' ∧ RF G G' ∧ True))) args s 0 0 (zA Γ)) 0 [some (zr 9 w), some (zi k)] [] G
  refine zs_loc 1 rfl (fun ha1 hb1 => ?_)
  refine zs_aload_n (pc := 0) C dX8_remember_0 rfl ?_
  refine zs_getf (pc := 1) C dX8_remember_1 w_X8_49 f_9_7 (by decide) ?_
  refine zVv0 (pc := 4) C dX8_remember_4 v_X8_97 (c_X2_forget hX ) (by decide) (by decide) ⟨Nat.zero_le _, Nat.zero_le _⟩ (Nat.le_of_ble_eq_true rfl) (fun G4 hp4 => ?_)
  obtain ⟨hz4, hq4⟩ := hp4
  refine zs_aload_n (pc := 7) C dX8_remember_7 rfl ?_
  refine zs_geti (r := 910) (pc := 8) C dX8_remember_8 w_X8_94 f_9_10 rfl (r_910 0) (fun v8 e8 l8 u8 => ?_)
  refine zs_bipush (pc := 11) C dX8_remember_11 (by decide) (by decide) ?_
  refine zs_icmp_lt (tgt := 37) (pc := 13) C dX8_remember_13 (by decide) (fun h13 => ?_) (fun h13 => ?_)
  · skip
    refine zs_aload_n (pc := 37) C dX8_remember_37 rfl ?_
    refine zs_getf (pc := 38) C dX8_remember_38 w_X8_60 f_9_9 (by decide) ?_
    refine zs_aload_n (pc := 41) C dX8_remember_41 rfl ?_
    refine zs_geti (r := 910) (pc := 42) C dX8_remember_42 w_X8_94 f_9_10 rfl (r_910 0) (fun v42 e42 l42 u42 => ?_)
    refine zs_iload_n (pc := 45) C dX8_remember_45 rfl ?_
    refine zs_iast (r := 2056) (pc := 46) C dX8_remember_46 a_56 (by decide) (by omega) rfl (r_2056 _) (by omega) ?_
    refine zs_aload_n (pc := 47) C dX8_remember_47 rfl ?_
    refine zs_dupa (pc := 48) C dX8_remember_48 ?_
    refine zs_geti (r := 910) (pc := 49) C dX8_remember_49 w_X8_94 f_9_10 rfl (r_910 0) (fun v49 e49 l49 u49 => ?_)
    try simp only [zuI_1, zuI_2, zuJ_1, zuJ_2, zuJ_3, zuP_1, zuP_2, zuP_3, zuC_1, zuC_2, reduceIte, Nat.reduceEqDiff, false_and, and_false, true_and, and_true, and_self, or_true, true_or, or_false, false_or] at e49
    refine zs_iconst (pc := 52) C dX8_remember_52 (by decide) ?_
    first | refine zs_iadd (pc := 53) C dX8_remember_53 (by omega) ?_ | refine zs_iaddF (pc := 53) C dX8_remember_53 (fun z53 hz531 hz532 => ?_)
    refine zs_puti (r := 910) (pc := 54) C dX8_remember_54 w_X8_94 f_9_10 rfl (r_910 0) (by omega) ?_
    exact zs_vret (pc := 57) C hr hlk dX8_remember_57 ⟨by repeat (first | exact zsn_rf | assumption | refine zsn_C (by decide) ?_ | refine zsn_I (by decide) ?_ | refine zsn_J ?_ | refine zsn_P ?_ | refine zsn_m (by assumption) (by decide) ?_ | refine zsn_c (by assumption) (by decide) ?_), (by with_reducible repeat (first | exact RF_rf | assumption | apply RF_I | apply RF_J | apply RF_C | apply RF_P | refine RF_c (by assumption) ?_ | refine RF_m (by assumption) ?_)), trivial⟩
  · skip
    refine zs_aload_n (pc := 16) C dX8_remember_16 rfl ?_
    refine zs_getf (pc := 17) C dX8_remember_17 w_X8_60 f_9_9 (by decide) ?_
    refine zs_iconst (pc := 20) C dX8_remember_20 (by decide) ?_
    refine zs_aload_n (pc := 21) C dX8_remember_21 rfl ?_
    refine zs_getf (pc := 22) C dX8_remember_22 w_X8_60 f_9_9 (by decide) ?_
    refine zs_iconst (pc := 25) C dX8_remember_25 (by decide) ?_
    refine zs_bipush (pc := 26) C dX8_remember_26 (by decide) (by decide) ?_
    refine zs_acopy (r0 := 2056) (r1 := 2056) (pc := 28) C dX8_remember_28 ac_X8_191 a_56 a_56 (by decide) (by decide) (by omega) (by omega) (by omega) (by omega) (by omega) rfl rfl (fun i j => Or.inl (by rw [r_2056, r_2056]; decide)) (by decide) (Nat.le_of_ble_eq_true rfl) ?_
    refine zs_aload_n (pc := 31) C dX8_remember_31 rfl ?_
    refine zs_bipush (pc := 32) C dX8_remember_32 (by decide) (by decide) ?_
    refine zs_puti (r := 910) (pc := 34) C dX8_remember_34 w_X8_94 f_9_10 rfl (r_910 0) (by omega) ?_
    refine zs_aload_n (pc := 37) C dX8_remember_37 rfl ?_
    refine zs_getf (pc := 38) C dX8_remember_38 w_X8_60 f_9_9 (by decide) ?_
    refine zs_aload_n (pc := 41) C dX8_remember_41 rfl ?_
    refine zs_geti (r := 910) (pc := 42) C dX8_remember_42 w_X8_94 f_9_10 rfl (r_910 0) (fun v42 e42 l42 u42 => ?_)
    try simp only [zuI_1, zuI_2, zuJ_1, zuJ_2, zuJ_3, zuP_1, zuP_2, zuP_3, zuC_1, zuC_2, reduceIte, Nat.reduceEqDiff, false_and, and_false, true_and, and_true, and_self, or_true, true_or, or_false, false_or] at e42
    refine zs_iload_n (pc := 45) C dX8_remember_45 rfl ?_
    refine zs_iast (r := 2056) (pc := 46) C dX8_remember_46 a_56 (by decide) (by omega) rfl (r_2056 _) (by omega) ?_
    refine zs_aload_n (pc := 47) C dX8_remember_47 rfl ?_
    refine zs_dupa (pc := 48) C dX8_remember_48 ?_
    refine zs_geti (r := 910) (pc := 49) C dX8_remember_49 w_X8_94 f_9_10 rfl (r_910 0) (fun v49 e49 l49 u49 => ?_)
    try simp only [zuI_1, zuI_2, zuJ_1, zuJ_2, zuJ_3, zuP_1, zuP_2, zuP_3, zuC_1, zuC_2, reduceIte, Nat.reduceEqDiff, false_and, and_false, true_and, and_true, and_self, or_true, true_or, or_false, false_or] at e49
    refine zs_iconst (pc := 52) C dX8_remember_52 (by decide) ?_
    first | refine zs_iadd (pc := 53) C dX8_remember_53 (by omega) ?_ | refine zs_iaddF (pc := 53) C dX8_remember_53 (fun z53 hz531 hz532 => ?_)
    refine zs_puti (r := 910) (pc := 54) C dX8_remember_54 w_X8_94 f_9_10 rfl (r_910 0) (by omega) ?_
    exact zs_vret (pc := 57) C hr hlk dX8_remember_57 ⟨by repeat (first | exact zsn_rf | assumption | refine zsn_C (by decide) ?_ | refine zsn_I (by decide) ?_ | refine zsn_J ?_ | refine zsn_P ?_ | refine zsn_m (by assumption) (by decide) ?_ | refine zsn_c (by assumption) (by decide) ?_), (by with_reducible repeat (first | exact RF_rf | assumption | apply RF_I | apply RF_J | apply RF_C | apply RF_P | refine RF_c (by assumption) ?_ | refine RF_m (by assumption) ?_)), trivial⟩

set_option maxHeartbeats 4000000 in
set_option maxRecDepth 100000 in
theorem c_X8_confessByCallR {l : Launch} {Γ : zΓ} {G : zH} {w : Nat} {p0 s0 : Int} (hX : zXs Γ) (hp : 0 ≤ p0 ∧ p0 ≤ 4)(hs : 0 ≤ s0 ∧ s0 ≤ 3) : zMet l Γ yX8_confessByCall cX8_confessByCall 3 (some .int) 4 [zr 9 w, zi p0, zi s0] G (zpi (fun x G' => zsn [510, 2026, 2027, 2028, 2029, 2030, 2031, 2032, 2033, 2034, 2035, 810, 811, 2049, 2050, 2051, 2020, 2056, 910] G G' ∧ RF G G' ∧ True)) := by
  refine zMet_of RX8 hX (by decide) rfl (Nat.le_of_ble_eq_true rfl) ?_
  intro p e s m args below meth c C hr hlk
  show Z p l e (zrm 4) s m args below meth c Γ 3 0 0 (MQ below (zQc Γ (zpi (fun x G' => zsn [510, 2026, 2027, 2028, 2029, 2030, 2031, 2032, 2033, 2034, 2035, 810, 811, 2049, 2050, 2051, 2020, 2056, 910] G G' ∧ RF G G' ∧ True))) args s 0 0 (zA Γ)) 0 [some (zr 9 w), some (zi p0), some (zi s0)] [] G
  refine zs_loc 1 rfl (fun ha1 hb1 => ?_)
  refine zs_loc 2 rfl (fun ha2 hb2 => ?_)
  refine zs_aload_n (pc := 0) C dX8_confessByCall_0 rfl ?_
  refine zs_getf (pc := 1) C dX8_confessByCall_1 w_X8_34 f_9_4 (by decide) ?_
  refine zs_iload_n (pc := 4) C dX8_confessByCall_4 rfl ?_
  refine zs_iload_n (pc := 5) C dX8_confessByCall_5 rfl ?_
  refine zs_iconst (pc := 6) C dX8_confessByCall_6 (by decide) ?_
  refine zVv3 (pc := 7) C dX8_confessByCall_7 v_X8_165 (c_X7_grindOne hX (by omega) (by omega)) (by decide) (by decide) ⟨Nat.zero_le _, Nat.zero_le _⟩ (Nat.le_of_ble_eq_true rfl) (fun G7 hp7 => ?_)
  obtain ⟨hz7, hq7⟩ := hp7
  refine zs_aload_n (pc := 10) C dX8_confessByCall_10 rfl ?_
  refine zs_iconst (pc := 11) C dX8_confessByCall_11 (by decide) ?_
  refine zVv1 (pc := 12) C dX8_confessByCall_12 v_X8_169 (c_X8_rememberR hX (by omega)) (by decide) (by decide) ⟨Nat.zero_le _, Nat.zero_le _⟩ (Nat.le_of_ble_eq_true rfl) (fun G12 hp12 => ?_)
  obtain ⟨hz12, lo12, hq12⟩ := hp12
  refine zs_aload_n (pc := 15) C dX8_confessByCall_15 rfl ?_
  refine zs_getf (pc := 16) C dX8_confessByCall_16 w_X8_34 f_9_4 (by decide) ?_
  refine zs_getf (pc := 19) C dX8_confessByCall_19 w_X8_172 f_8_1 (by decide) ?_
  refine zs_geti (r := 510) (pc := 22) C dX8_confessByCall_22 w_X8_176 f_5_10 rfl (r_510 0) (fun v22 e22 l22 u22 => ?_)
  refine zs_iconst (pc := 25) C dX8_confessByCall_25 (by decide) ?_
  first | refine zs_isub (pc := 26) C dX8_confessByCall_26 (by omega) ?_ | refine zs_isubF (pc := 26) C dX8_confessByCall_26 (fun z26 hz261 hz262 => ?_)
  exact zs_iret (pc := 27) C hr hlk dX8_confessByCall_27 ⟨by repeat (first | exact zsn_rf | assumption | refine zsn_C (by decide) ?_ | refine zsn_I (by decide) ?_ | refine zsn_J ?_ | refine zsn_P ?_ | refine zsn_m (by assumption) (by decide) ?_ | refine zsn_c (by assumption) (by decide) ?_), (by with_reducible repeat (first | exact RF_rf | assumption | apply RF_I | apply RF_J | apply RF_C | apply RF_P | refine RF_c (by assumption) ?_ | refine RF_m (by assumption) ?_)), trivial⟩

set_option maxHeartbeats 4000000 in
set_option maxRecDepth 100000 in
theorem c_X8_confessR {l : Launch} {Γ : zΓ} {G : zH} {w : Nat} {p0 s0 : Int} (hX : zXs Γ)  : zMet l Γ yX8_confess cX8_confess 3 (some .int) 5 [zr 9 w, zi p0, zi s0] G (zpi (fun x G' => zsn [510, 2026, 2027, 2028, 2029, 2030, 2031, 2032, 2033, 2034, 2035, 810, 811, 2049, 2050, 2051, 2020, 2056, 910] G G' ∧ RF G G' ∧ True)) := by
  refine zMet_of RX8 hX (by decide) rfl (Nat.le_of_ble_eq_true rfl) ?_
  intro p e s m args below meth c C hr hlk
  show Z p l e (zrm 5) s m args below meth c Γ 3 0 0 (MQ below (zQc Γ (zpi (fun x G' => zsn [510, 2026, 2027, 2028, 2029, 2030, 2031, 2032, 2033, 2034, 2035, 810, 811, 2049, 2050, 2051, 2020, 2056, 910] G G' ∧ RF G G' ∧ True))) args s 0 0 (zA Γ)) 0 [some (zr 9 w), some (zi p0), some (zi s0)] [] G
  refine zs_loc 1 rfl (fun ha1 hb1 => ?_)
  refine zs_loc 2 rfl (fun ha2 hb2 => ?_)
  refine zs_aload_n (pc := 0) C dX8_confess_0 rfl ?_
  refine zs_getd (r := 903) (pc := 1) C dX8_confess_1 w_X8_25 f_9_3 (by decide) rfl (fun v1 e1 t1 => ?_)
  refine zs_iload_n (pc := 4) C dX8_confess_4 rfl ?_
  refine zs_iload_n (pc := 5) C dX8_confess_5 rfl ?_
  refine zVip2 (pc := 6) C dX8_confess_6 v_X8_136 (c_X5_hasBoth hX ) (by decide) (by decide) ⟨Nat.zero_le _, Nat.zero_le _⟩ (Nat.le_of_ble_eq_true rfl) (fun x6 l6 u6 hp6 => ?_)
  have hq6 := hp6
  refine zs_if_ne (tgt := 14) (pc := 9) C dX8_confess_9 (by decide) (fun h9 => ?_) (fun h9 => ?_)
  · skip
    refine zs_aload_n (pc := 14) C dX8_confess_14 rfl ?_
    refine zs_getf (pc := 15) C dX8_confess_15 w_X8_34 f_9_4 (by decide) ?_
    refine zVip0 (pc := 18) C dX8_confess_18 v_X8_158 (c_X7_canGrind hX ) (by decide) (by decide) ⟨Nat.zero_le _, Nat.zero_le _⟩ (Nat.le_of_ble_eq_true rfl) (fun x18 l18 u18 hp18 => ?_)
    have hq18 := hp18
    refine zs_if_eq (tgt := 33) (pc := 21) C dX8_confess_21 (by decide) (fun h21 => ?_) (fun h21 => ?_)
    · skip
      refine zs_bipush (pc := 33) C dX8_confess_33 (by decide) (by decide) ?_
      exact zs_iret (pc := 35) C hr hlk dX8_confess_35 ⟨by repeat (first | exact zsn_rf | assumption | refine zsn_C (by decide) ?_ | refine zsn_I (by decide) ?_ | refine zsn_J ?_ | refine zsn_P ?_ | refine zsn_m (by assumption) (by decide) ?_ | refine zsn_c (by assumption) (by decide) ?_), (by with_reducible repeat (first | exact RF_rf | assumption | apply RF_I | apply RF_J | apply RF_C | apply RF_P | refine RF_c (by assumption) ?_ | refine RF_m (by assumption) ?_)), trivial⟩
    · skip
      refine zs_aload_n (pc := 24) C dX8_confess_24 rfl ?_
      refine zs_iload_n (pc := 25) C dX8_confess_25 rfl ?_
      refine zs_iload_n (pc := 26) C dX8_confess_26 rfl ?_
      refine zVi2 (pc := 27) C dX8_confess_27 v_X8_162 (c_X8_confessByCallR hX (by omega) (by omega)) (by decide) (by decide) ⟨Nat.zero_le _, Nat.zero_le _⟩ (Nat.le_of_ble_eq_true rfl) (fun x27 G27 l27 u27 hp27 => ?_)
      obtain ⟨hz27, lo27, hq27⟩ := hp27
      refine zs_goto (tgt := 35) (pc := 30) C dX8_confess_30 (by decide) ?_
      exact zs_iret (pc := 35) C hr hlk dX8_confess_35 ⟨by repeat (first | exact zsn_rf | assumption | refine zsn_C (by decide) ?_ | refine zsn_I (by decide) ?_ | refine zsn_J ?_ | refine zsn_P ?_ | refine zsn_m (by assumption) (by decide) ?_ | refine zsn_c (by assumption) (by decide) ?_), (by with_reducible repeat (first | exact RF_rf | assumption | apply RF_I | apply RF_J | apply RF_C | apply RF_P | refine RF_c (by assumption) ?_ | refine RF_m (by assumption) ?_)), trivial⟩
  · skip
    refine zs_iconst (pc := 12) C dX8_confess_12 (by decide) ?_
    exact zs_iret (pc := 13) C hr hlk dX8_confess_13 ⟨by repeat (first | exact zsn_rf | assumption | refine zsn_C (by decide) ?_ | refine zsn_I (by decide) ?_ | refine zsn_J ?_ | refine zsn_P ?_ | refine zsn_m (by assumption) (by decide) ?_ | refine zsn_c (by assumption) (by decide) ?_), (by with_reducible repeat (first | exact RF_rf | assumption | apply RF_I | apply RF_J | apply RF_C | apply RF_P | refine RF_c (by assumption) ?_ | refine RF_m (by assumption) ?_)), trivial⟩

set_option maxHeartbeats 4000000 in
set_option maxRecDepth 100000 in
theorem c_X8_askR {l : Launch} {Γ : zΓ} {G : zH} {w : Nat} {p0 : Int} (hX : zXs Γ)  : zMet l Γ yX8_ask cX8_ask 3 (some .int) 5 [zr 9 w, zi p0] G (zpi (fun x G' => zsn [510, 2026, 2027, 2028, 2029, 2030, 2031, 2032, 2033, 2034, 2035, 810, 811, 2049, 2050, 2051, 2020, 2056, 910, 812] G G' ∧ RF G G' ∧ True)) := by
  refine zMet_of RX8 hX (by decide) rfl (Nat.le_of_ble_eq_true rfl) ?_
  intro p e s m args below meth c C hr hlk
  show Z p l e (zrm 5) s m args below meth c Γ 3 0 0 (MQ below (zQc Γ (zpi (fun x G' => zsn [510, 2026, 2027, 2028, 2029, 2030, 2031, 2032, 2033, 2034, 2035, 810, 811, 2049, 2050, 2051, 2020, 2056, 910, 812] G G' ∧ RF G G' ∧ True))) args s 0 0 (zA Γ)) 0 [some (zr 9 w), some (zi p0), none] [] G
  refine zs_loc 1 rfl (fun ha1 hb1 => ?_)
  refine zs_aload_n (pc := 0) C dX8_ask_0 rfl ?_
  refine zs_getd (r := 903) (pc := 1) C dX8_ask_1 w_X8_25 f_9_3 (by decide) rfl (fun v1 e1 t1 => ?_)
  refine zs_iconst (pc := 4) C dX8_ask_4 (by decide) ?_
  refine zs_iload_n (pc := 5) C dX8_ask_5 rfl ?_
  refine zVip2 (pc := 6) C dX8_ask_6 v_X8_104 (c_X5_has hX (by omega)) (by decide) (by decide) ⟨Nat.zero_le _, Nat.zero_le _⟩ (Nat.le_of_ble_eq_true rfl) (fun x6 l6 u6 hp6 => ?_)
  have hq6 := hp6
  refine zs_if_ne (tgt := 14) (pc := 9) C dX8_ask_9 (by decide) (fun h9 => ?_) (fun h9 => ?_)
  · skip
    refine zs_aload_n (pc := 14) C dX8_ask_14 rfl ?_
    refine zs_getf (pc := 15) C dX8_ask_15 w_X8_34 f_9_4 (by decide) ?_
    refine zVip0 (pc := 18) C dX8_ask_18 v_X8_158 (c_X7_canGrind hX ) (by decide) (by decide) ⟨Nat.zero_le _, Nat.zero_le _⟩ (Nat.le_of_ble_eq_true rfl) (fun x18 l18 u18 hp18 => ?_)
    have hq18 := hp18
    refine zs_if_ne (tgt := 27) (pc := 21) C dX8_ask_21 (by decide) (fun h21 => ?_) (fun h21 => ?_)
    · skip
      refine zs_aload_n (pc := 27) C dX8_ask_27 rfl ?_
      refine zs_getf (pc := 28) C dX8_ask_28 w_X8_34 f_9_4 (by decide) ?_
      refine zs_iload_n (pc := 31) C dX8_ask_31 rfl ?_
      refine zVi1 (pc := 32) C dX8_ask_32 v_X8_181 (c_X7_sinByChance hX (by omega)) (by decide) (by decide) ⟨Nat.zero_le _, Nat.zero_le _⟩ (Nat.le_of_ble_eq_true rfl) (fun x32 G32 l32 u32 hp32 => ?_)
      obtain ⟨hz32, hq32⟩ := hp32
      refine zs_istore_n (pc := 35) C dX8_ask_35 (by decide) ?_
      dsimp only [zset, zclr, znone]
      refine zs_aload_n (pc := 36) C dX8_ask_36 rfl ?_
      refine zs_getd (r := 903) (pc := 37) C dX8_ask_37 w_X8_25 f_9_3 (by decide) rfl (fun v37 e37 t37 => ?_)
      try simp only [hz32.2, zuI_1, zuI_2, zuJ_1, zuJ_2, zuJ_3, zuP_1, zuP_2, zuP_3, zuC_1, zuC_2, reduceIte, Nat.reduceEqDiff, false_and, and_false, true_and, and_true, and_self, or_true, true_or, or_false, false_or] at e37
      refine zs_iconst (pc := 40) C dX8_ask_40 (by decide) ?_
      refine zs_iload_n (pc := 41) C dX8_ask_41 rfl ?_
      refine zVip2 (pc := 42) C dX8_ask_42 v_X8_104 (c_X5_has hX (by omega)) (by decide) (by decide) ⟨Nat.zero_le _, Nat.zero_le _⟩ (Nat.le_of_ble_eq_true rfl) (fun x42 l42 u42 hp42 => ?_)
      have hq42 := hp42
      refine zs_if_eq (tgt := 57) (pc := 45) C dX8_ask_45 (by decide) (fun h45 => ?_) (fun h45 => ?_)
      · skip
        refine zs_bipush (pc := 57) C dX8_ask_57 (by decide) (by decide) ?_
        exact zs_iret (pc := 59) C hr hlk dX8_ask_59 ⟨by repeat (first | exact zsn_rf | assumption | refine zsn_C (by decide) ?_ | refine zsn_I (by decide) ?_ | refine zsn_J ?_ | refine zsn_P ?_ | refine zsn_m (by assumption) (by decide) ?_ | refine zsn_c (by assumption) (by decide) ?_), (by with_reducible repeat (first | exact RF_rf | assumption | apply RF_I | apply RF_J | apply RF_C | apply RF_P | refine RF_c (by assumption) ?_ | refine RF_m (by assumption) ?_)), trivial⟩
      · skip
        refine zs_aload_n (pc := 48) C dX8_ask_48 rfl ?_
        refine zs_iload_n (pc := 49) C dX8_ask_49 rfl ?_
        refine zs_iload_n (pc := 50) C dX8_ask_50 rfl ?_
        refine zVi2 (pc := 51) C dX8_ask_51 v_X8_162 (c_X8_confessByCallR hX (by omega) (by omega)) (by decide) (by decide) ⟨Nat.zero_le _, Nat.zero_le _⟩ (Nat.le_of_ble_eq_true rfl) (fun x51 G51 l51 u51 hp51 => ?_)
        obtain ⟨hz51, lo51, hq51⟩ := hp51
        refine zs_goto (tgt := 59) (pc := 54) C dX8_ask_54 (by decide) ?_
        exact zs_iret (pc := 59) C hr hlk dX8_ask_59 ⟨by repeat (first | exact zsn_rf | assumption | refine zsn_C (by decide) ?_ | refine zsn_I (by decide) ?_ | refine zsn_J ?_ | refine zsn_P ?_ | refine zsn_m (by assumption) (by decide) ?_ | refine zsn_c (by assumption) (by decide) ?_), (by with_reducible repeat (first | exact RF_rf | assumption | apply RF_I | apply RF_J | apply RF_C | apply RF_P | refine RF_c (by assumption) ?_ | refine RF_m (by assumption) ?_)), trivial⟩
    · skip
      refine zs_bipush (pc := 24) C dX8_ask_24 (by decide) (by decide) ?_
      exact zs_iret (pc := 26) C hr hlk dX8_ask_26 ⟨by repeat (first | exact zsn_rf | assumption | refine zsn_C (by decide) ?_ | refine zsn_I (by decide) ?_ | refine zsn_J ?_ | refine zsn_P ?_ | refine zsn_m (by assumption) (by decide) ?_ | refine zsn_c (by assumption) (by decide) ?_), (by with_reducible repeat (first | exact RF_rf | assumption | apply RF_I | apply RF_J | apply RF_C | apply RF_P | refine RF_c (by assumption) ?_ | refine RF_m (by assumption) ?_)), trivial⟩
  · skip
    refine zs_iconst (pc := 12) C dX8_ask_12 (by decide) ?_
    exact zs_iret (pc := 13) C hr hlk dX8_ask_13 ⟨by repeat (first | exact zsn_rf | assumption | refine zsn_C (by decide) ?_ | refine zsn_I (by decide) ?_ | refine zsn_J ?_ | refine zsn_P ?_ | refine zsn_m (by assumption) (by decide) ?_ | refine zsn_c (by assumption) (by decide) ?_), (by with_reducible repeat (first | exact RF_rf | assumption | apply RF_I | apply RF_J | apply RF_C | apply RF_P | refine RF_c (by assumption) ?_ | refine RF_m (by assumption) ?_)), trivial⟩

set_option maxHeartbeats 4000000 in
set_option maxRecDepth 100000 in
theorem c_X8_fallR {l : Launch} {Γ : zΓ} {G : zH} {w : Nat} {p0 s0 : Int} (hX : zXs Γ)  : zMet l Γ yX8_fall cX8_fall 3 (some .int) 3 [zr 9 w, zi p0, zi s0] G (zpi (fun x G' => zsn [2048, 2049, 2052, 2020, 2056, 910] G G' ∧ RF G G' ∧ True)) := by
  refine zMet_of RX8 hX (by decide) rfl (Nat.le_of_ble_eq_true rfl) ?_
  intro p e s m args below meth c C hr hlk
  show Z p l e (zrm 3) s m args below meth c Γ 3 0 0 (MQ below (zQc Γ (zpi (fun x G' => zsn [2048, 2049, 2052, 2020, 2056, 910] G G' ∧ RF G G' ∧ True))) args s 0 0 (zA Γ)) 0 [some (zr 9 w), some (zi p0), some (zi s0)] [] G
  refine zs_loc 1 rfl (fun ha1 hb1 => ?_)
  refine zs_loc 2 rfl (fun ha2 hb2 => ?_)
  refine zs_aload_n (pc := 0) C dX8_fall_0 rfl ?_
  refine zs_getd (r := 903) (pc := 1) C dX8_fall_1 w_X8_25 f_9_3 (by decide) rfl (fun v1 e1 t1 => ?_)
  refine zs_iload_n (pc := 4) C dX8_fall_4 rfl ?_
  refine zs_iload_n (pc := 5) C dX8_fall_5 rfl ?_
  refine zVip2 (pc := 6) C dX8_fall_6 v_X8_136 (c_X5_hasBoth hX ) (by decide) (by decide) ⟨Nat.zero_le _, Nat.zero_le _⟩ (Nat.le_of_ble_eq_true rfl) (fun x6 l6 u6 hp6 => ?_)
  have hq6 := hp6
  refine zs_if_ne (tgt := 14) (pc := 9) C dX8_fall_9 (by decide) (fun h9 => ?_) (fun h9 => ?_)
  · skip
    refine zs_aload_n (pc := 14) C dX8_fall_14 rfl ?_
    refine zs_getf (pc := 15) C dX8_fall_15 w_X8_34 f_9_4 (by decide) ?_
    refine zs_iload_n (pc := 18) C dX8_fall_18 rfl ?_
    refine zs_iload_n (pc := 19) C dX8_fall_19 rfl ?_
    refine zVip2 (pc := 20) C dX8_fall_20 v_X8_184 (c_X7_canFall hX (by omega) (by omega)) (by decide) (by decide) ⟨Nat.zero_le _, Nat.zero_le _⟩ (Nat.le_of_ble_eq_true rfl) (fun x20 l20 u20 hp20 => ?_)
    have hq20 := hp20
    refine zs_if_ne (tgt := 29) (pc := 23) C dX8_fall_23 (by decide) (fun h23 => ?_) (fun h23 => ?_)
    · skip
      refine zs_aload_n (pc := 29) C dX8_fall_29 rfl ?_
      refine zs_getf (pc := 30) C dX8_fall_30 w_X8_34 f_9_4 (by decide) ?_
      refine zs_iload_n (pc := 33) C dX8_fall_33 rfl ?_
      refine zs_iload_n (pc := 34) C dX8_fall_34 rfl ?_
      refine zVv2 (pc := 35) C dX8_fall_35 v_X8_187 (c_X7_fallOnce hX (by omega) (by omega)) (by decide) (by decide) ⟨Nat.zero_le _, Nat.zero_le _⟩ (Nat.le_of_ble_eq_true rfl) (fun G35 hp35 => ?_)
      obtain ⟨hz35, hq35⟩ := hp35
      refine zs_aload_n (pc := 38) C dX8_fall_38 rfl ?_
      refine zs_iconst (pc := 39) C dX8_fall_39 (by decide) ?_
      refine zs_iload_n (pc := 40) C dX8_fall_40 rfl ?_
      refine zs_iconst (pc := 41) C dX8_fall_41 (by decide) ?_
      first | refine zs_imul (pc := 42) C dX8_fall_42 (by omega) ?_ | refine zs_imulF (pc := 42) C dX8_fall_42 (fun z42 hz421 hz422 => ?_)
      first | refine zs_iadd (pc := 43) C dX8_fall_43 (by omega) ?_ | refine zs_iaddF (pc := 43) C dX8_fall_43 (fun z43 hz431 hz432 => ?_)
      refine zs_iload_n (pc := 44) C dX8_fall_44 rfl ?_
      first | refine zs_iadd (pc := 45) C dX8_fall_45 (by omega) ?_ | refine zs_iaddF (pc := 45) C dX8_fall_45 (fun z45 hz451 hz452 => ?_)
      refine zVv1 (pc := 46) C dX8_fall_46 v_X8_169 (c_X8_rememberR hX (by omega)) (by decide) (by decide) ⟨Nat.zero_le _, Nat.zero_le _⟩ (Nat.le_of_ble_eq_true rfl) (fun G46 hp46 => ?_)
      obtain ⟨hz46, lo46, hq46⟩ := hp46
      refine zs_aload_n (pc := 49) C dX8_fall_49 rfl ?_
      refine zs_getf (pc := 50) C dX8_fall_50 w_X8_34 f_9_4 (by decide) ?_
      refine zs_getf (pc := 53) C dX8_fall_53 w_X8_128 f_8_6 (by decide) ?_
      refine zs_iload_n (pc := 56) C dX8_fall_56 rfl ?_
      refine zs_iald (r := 2052) (pc := 57) C dX8_fall_57 a_52 (by decide) (by omega) rfl (r_2052 _) (fun v57 e57 l57 u57 => ?_)
      exact zs_iret (pc := 58) C hr hlk dX8_fall_58 ⟨by repeat (first | exact zsn_rf | assumption | refine zsn_C (by decide) ?_ | refine zsn_I (by decide) ?_ | refine zsn_J ?_ | refine zsn_P ?_ | refine zsn_m (by assumption) (by decide) ?_ | refine zsn_c (by assumption) (by decide) ?_), (by with_reducible repeat (first | exact RF_rf | assumption | apply RF_I | apply RF_J | apply RF_C | apply RF_P | refine RF_c (by assumption) ?_ | refine RF_m (by assumption) ?_)), trivial⟩
    · skip
      refine zs_bipush (pc := 26) C dX8_fall_26 (by decide) (by decide) ?_
      exact zs_iret (pc := 28) C hr hlk dX8_fall_28 ⟨by repeat (first | exact zsn_rf | assumption | refine zsn_C (by decide) ?_ | refine zsn_I (by decide) ?_ | refine zsn_J ?_ | refine zsn_P ?_ | refine zsn_m (by assumption) (by decide) ?_ | refine zsn_c (by assumption) (by decide) ?_), (by with_reducible repeat (first | exact RF_rf | assumption | apply RF_I | apply RF_J | apply RF_C | apply RF_P | refine RF_c (by assumption) ?_ | refine RF_m (by assumption) ?_)), trivial⟩
  · skip
    refine zs_iconst (pc := 12) C dX8_fall_12 (by decide) ?_
    exact zs_iret (pc := 13) C hr hlk dX8_fall_13 ⟨by repeat (first | exact zsn_rf | assumption | refine zsn_C (by decide) ?_ | refine zsn_I (by decide) ?_ | refine zsn_J ?_ | refine zsn_P ?_ | refine zsn_m (by assumption) (by decide) ?_ | refine zsn_c (by assumption) (by decide) ?_), (by with_reducible repeat (first | exact RF_rf | assumption | apply RF_I | apply RF_J | apply RF_C | apply RF_P | refine RF_c (by assumption) ?_ | refine RF_m (by assumption) ?_)), trivial⟩

set_option maxHeartbeats 4000000 in
set_option maxRecDepth 100000 in
theorem c_X8_bakeR {l : Launch} {Γ : zΓ} {G : zH} {w : Nat} {p0 : Int} (hX : zXs Γ)  : zMet l Γ yX8_bake cX8_bake 2 (some .boolean) 3 [zr 9 w, zi p0] G (zpi (fun x G' => zsn [2054, 2030, 2053, 2020, 2056, 910] G G' ∧ RF G G' ∧ (x = 0 ∨ x = 1))) := by
  refine zMet_of RX8 hX (by decide) rfl (Nat.le_of_ble_eq_true rfl) ?_
  intro p e s m args below meth c C hr hlk
  show Z p l e (zrm 3) s m args below meth c Γ 2 0 0 (MQ below (zQc Γ (zpi (fun x G' => zsn [2054, 2030, 2053, 2020, 2056, 910] G G' ∧ RF G G' ∧ (x = 0 ∨ x = 1)))) args s 0 0 (zA Γ)) 0 [some (zr 9 w), some (zi p0)] [] G
  refine zs_loc 1 rfl (fun ha1 hb1 => ?_)
  refine zs_aload_n (pc := 0) C dX8_bake_0 rfl ?_
  refine zs_getd (r := 903) (pc := 1) C dX8_bake_1 w_X8_25 f_9_3 (by decide) rfl (fun v1 e1 t1 => ?_)
  refine zs_iconst (pc := 4) C dX8_bake_4 (by decide) ?_
  refine zs_iload_n (pc := 5) C dX8_bake_5 rfl ?_
  refine zVip2 (pc := 6) C dX8_bake_6 v_X8_104 (c_X5_has hX (by omega)) (by decide) (by decide) ⟨Nat.zero_le _, Nat.zero_le _⟩ (Nat.le_of_ble_eq_true rfl) (fun x6 l6 u6 hp6 => ?_)
  have hq6 := hp6
  refine zs_if_eq (tgt := 42) (pc := 9) C dX8_bake_9 (by decide) (fun h9 => ?_) (fun h9 => ?_)
  · skip
    refine zs_iconst (pc := 42) C dX8_bake_42 (by decide) ?_
    exact zs_zret (pc := 43) C hr hlk dX8_bake_43 (by omega) ⟨by repeat (first | exact zsn_rf | assumption | refine zsn_C (by decide) ?_ | refine zsn_I (by decide) ?_ | refine zsn_J ?_ | refine zsn_P ?_ | refine zsn_m (by assumption) (by decide) ?_ | refine zsn_c (by assumption) (by decide) ?_), (by with_reducible repeat (first | exact RF_rf | assumption | apply RF_I | apply RF_J | apply RF_C | apply RF_P | refine RF_c (by assumption) ?_ | refine RF_m (by assumption) ?_)), by first | omega | (simp only [zuI_1, zuI_2, zuJ_1, zuJ_2, zuJ_3, zuP_1, zuP_2, zuP_3, zuC_1, zuC_2, reduceIte, Nat.reduceEqDiff, false_and, and_false, true_and, and_true, and_self, or_true, true_or, or_false, false_or]; omega)⟩
  · skip
    refine zs_aload_n (pc := 12) C dX8_bake_12 rfl ?_
    refine zs_getf (pc := 13) C dX8_bake_13 w_X8_34 f_9_4 (by decide) ?_
    refine zs_geti (r := 809) (pc := 16) C dX8_bake_16 w_X8_221 f_8_9 rfl (r_809 0) (fun v16 e16 l16 u16 => ?_)
    refine zs_aload_n (pc := 19) C dX8_bake_19 rfl ?_
    refine zs_getd (r := 903) (pc := 20) C dX8_bake_20 w_X8_25 f_9_3 (by decide) rfl (fun v20 e20 t20 => ?_)
    refine zs_getf (pc := 23) C dX8_bake_23 w_X8_224 f_6_8 (by decide) ?_
    refine zs_iload_n (pc := 26) C dX8_bake_26 rfl ?_
    refine zs_iald (r := 2043) (pc := 27) C dX8_bake_27 a_43 (by decide) (by omega) rfl (r_2043 _) (fun v27 e27 l27 u27 => ?_)
    refine zs_icmp_gt (tgt := 42) (pc := 28) C dX8_bake_28 (by decide) (fun h28 => ?_) (fun h28 => ?_)
    · skip
      refine zs_iconst (pc := 42) C dX8_bake_42 (by decide) ?_
      exact zs_zret (pc := 43) C hr hlk dX8_bake_43 (by omega) ⟨by repeat (first | exact zsn_rf | assumption | refine zsn_C (by decide) ?_ | refine zsn_I (by decide) ?_ | refine zsn_J ?_ | refine zsn_P ?_ | refine zsn_m (by assumption) (by decide) ?_ | refine zsn_c (by assumption) (by decide) ?_), (by with_reducible repeat (first | exact RF_rf | assumption | apply RF_I | apply RF_J | apply RF_C | apply RF_P | refine RF_c (by assumption) ?_ | refine RF_m (by assumption) ?_)), by first | omega | (simp only [zuI_1, zuI_2, zuJ_1, zuJ_2, zuJ_3, zuP_1, zuP_2, zuP_3, zuC_1, zuC_2, reduceIte, Nat.reduceEqDiff, false_and, and_false, true_and, and_true, and_self, or_true, true_or, or_false, false_or]; omega)⟩
    · skip
      refine zs_aload_n (pc := 31) C dX8_bake_31 rfl ?_
      refine zs_getf (pc := 32) C dX8_bake_32 w_X8_34 f_9_4 (by decide) ?_
      refine zs_iload_n (pc := 35) C dX8_bake_35 rfl ?_
      refine zVi1 (pc := 36) C dX8_bake_36 v_X8_227 (c_X7_bakeOne hX (by omega)) (by decide) (by decide) ⟨Nat.zero_le _, Nat.zero_le _⟩ (Nat.le_of_ble_eq_true rfl) (fun x36 G36 l36 u36 hp36 => ?_)
      obtain ⟨hz36, hq36⟩ := hp36
      refine zs_if_ne (tgt := 44) (pc := 39) C dX8_bake_39 (by decide) (fun h39 => ?_) (fun h39 => ?_)
      · skip
        refine zs_aload_n (pc := 44) C dX8_bake_44 rfl ?_
        refine zs_bipush (pc := 45) C dX8_bake_45 (by decide) (by decide) ?_
        refine zs_iload_n (pc := 47) C dX8_bake_47 rfl ?_
        first | refine zs_iadd (pc := 48) C dX8_bake_48 (by omega) ?_ | refine zs_iaddF (pc := 48) C dX8_bake_48 (fun z48 hz481 hz482 => ?_)
        refine zVv1 (pc := 49) C dX8_bake_49 v_X8_169 (c_X8_rememberR hX (by omega)) (by decide) (by decide) ⟨Nat.zero_le _, Nat.zero_le _⟩ (Nat.le_of_ble_eq_true rfl) (fun G49 hp49 => ?_)
        obtain ⟨hz49, lo49, hq49⟩ := hp49
        refine zs_iconst (pc := 52) C dX8_bake_52 (by decide) ?_
        exact zs_zret (pc := 53) C hr hlk dX8_bake_53 (by omega) ⟨by repeat (first | exact zsn_rf | assumption | refine zsn_C (by decide) ?_ | refine zsn_I (by decide) ?_ | refine zsn_J ?_ | refine zsn_P ?_ | refine zsn_m (by assumption) (by decide) ?_ | refine zsn_c (by assumption) (by decide) ?_), (by with_reducible repeat (first | exact RF_rf | assumption | apply RF_I | apply RF_J | apply RF_C | apply RF_P | refine RF_c (by assumption) ?_ | refine RF_m (by assumption) ?_)), by first | omega | (simp only [zuI_1, zuI_2, zuJ_1, zuJ_2, zuJ_3, zuP_1, zuP_2, zuP_3, zuC_1, zuC_2, reduceIte, Nat.reduceEqDiff, false_and, and_false, true_and, and_true, and_self, or_true, true_or, or_false, false_or]; omega)⟩
      · skip
        refine zs_iconst (pc := 42) C dX8_bake_42 (by decide) ?_
        exact zs_zret (pc := 43) C hr hlk dX8_bake_43 (by omega) ⟨by repeat (first | exact zsn_rf | assumption | refine zsn_C (by decide) ?_ | refine zsn_I (by decide) ?_ | refine zsn_J ?_ | refine zsn_P ?_ | refine zsn_m (by assumption) (by decide) ?_ | refine zsn_c (by assumption) (by decide) ?_), (by with_reducible repeat (first | exact RF_rf | assumption | apply RF_I | apply RF_J | apply RF_C | apply RF_P | refine RF_c (by assumption) ?_ | refine RF_m (by assumption) ?_)), by first | omega | (simp only [zuI_1, zuI_2, zuJ_1, zuJ_2, zuJ_3, zuP_1, zuP_2, zuP_3, zuC_1, zuC_2, reduceIte, Nat.reduceEqDiff, false_and, and_false, true_and, and_true, and_self, or_true, true_or, or_false, false_or]; omega)⟩

set_option maxHeartbeats 4000000 in
set_option maxRecDepth 100000 in
theorem c_X8_daysR {l : Launch} {Γ : zΓ} {G : zH} {w : Nat} {k : Int} (hX : zXs Γ)  : zMet l Γ yX8_days cX8_days 3 (some .int) 5 [zr 9 w, zi k] G (zpi (fun x G' => zsn [510, 2026, 2027, 2028, 2029, 2030, 2031, 2032, 2033, 2034, 2035, 810, 811, 2049, 2050, 2051, 2054, 2053, 809, 910, 2020] G G' ∧ RF G G' ∧ True)) := by
  refine zMet_of RX8 hX (by decide) rfl (Nat.le_of_ble_eq_true rfl) ?_
  intro p e s m args below meth c C hr hlk
  show Z p l e (zrm 5) s m args below meth c Γ 3 0 0 (MQ below (zQc Γ (zpi (fun x G' => zsn [510, 2026, 2027, 2028, 2029, 2030, 2031, 2032, 2033, 2034, 2035, 810, 811, 2049, 2050, 2051, 2054, 2053, 809, 910, 2020] G G' ∧ RF G G' ∧ True))) args s 0 0 (zA Γ)) 0 [some (zr 9 w), some (zi k), none] [] G
  refine zs_loc 1 rfl (fun ha1 hb1 => ?_)
  refine zs_aload_n (pc := 0) C dX8_days_0 rfl ?_
  refine zs_iload_n (pc := 1) C dX8_days_1 rfl ?_
  refine zVip1 (pc := 2) C dX8_days_2 v_X8_236 (c_X8_areDays hX ) (by decide) (by decide) ⟨Nat.zero_le _, Nat.zero_le _⟩ (Nat.le_of_ble_eq_true rfl) (fun x2 l2 u2 hp2 => ?_)
  have hq2 := hp2
  refine zs_if_ne (tgt := 10) (pc := 5) C dX8_days_5 (by decide) (fun h5 => ?_) (fun h5 => ?_)
  · skip
    refine zs_iconst (pc := 10) C dX8_days_10 (by decide) ?_
    refine zs_istore_n (pc := 11) C dX8_days_11 (by decide) ?_
    dsimp only [zset, zclr, znone]
    have L12 : ∀ (nn : Nat) (x2 : Int) (G1 : zH), (0 ≤ x2) → (zsn [510, 2026, 2027, 2028, 2029, 2030, 2031, 2032, 2033, 2034, 2035, 810, 811, 2049, 2050, 2051, 2054, 2053, 809, 910, 2020] G G1) → (RF G G1) → (k - x2).toNat < nn → Z p l e (zrm 5) s m args below meth c Γ 3 0 0 (MQ below (zQc Γ (zpi (fun x G' => zsn [510, 2026, 2027, 2028, 2029, 2030, 2031, 2032, 2033, 2034, 2035, 810, 811, 2049, 2050, 2051, 2054, 2053, 809, 910, 2020] G G' ∧ RF G G' ∧ True))) args s 0 0 (zA Γ)) 12 [some (zr 9 w), some (zi k), some (zi x2)] [] G1 := by
      intro nn
      induction nn with
      | zero => intro x2 G1 h12_0 h12_1 h12_2 hm; exact absurd hm (Nat.not_lt_zero _)
      | succ nn ih12 =>
        intro x2 G1 h12_0 h12_1 h12_2 hm12
        refine zs_iload_n (pc := 12) C dX8_days_12 rfl ?_
        refine zs_iload_n (pc := 13) C dX8_days_13 rfl ?_
        refine zs_icmp_ge (tgt := 52) (pc := 14) C dX8_days_14 (by decide) (fun h14 => ?_) (fun h14 => ?_)
        · skip
          refine zs_iload_n (pc := 52) C dX8_days_52 rfl ?_
          refine zs_if_le (tgt := 68) (pc := 53) C dX8_days_53 (by decide) (fun h53 => ?_) (fun h53 => ?_)
          · skip
            refine zs_aload_n (pc := 68) C dX8_days_68 rfl ?_
            refine zs_getf (pc := 69) C dX8_days_69 w_X8_34 f_9_4 (by decide) ?_
            refine zs_geti (r := 809) (pc := 72) C dX8_days_72 w_X8_221 f_8_9 rfl (r_809 0) (fun v72 e72 l72 u72 => ?_)
            exact zs_iret (pc := 75) C hr hlk dX8_days_75 ⟨by repeat (first | exact zsn_rf | assumption | refine zsn_C (by decide) ?_ | refine zsn_I (by decide) ?_ | refine zsn_J ?_ | refine zsn_P ?_ | refine zsn_m (by assumption) (by decide) ?_ | refine zsn_c (by assumption) (by decide) ?_), (by with_reducible repeat (first | exact RF_rf | assumption | apply RF_I | apply RF_J | apply RF_C | apply RF_P | refine RF_c (by assumption) ?_ | refine RF_m (by assumption) ?_)), trivial⟩
          · skip
            refine zs_aload_n (pc := 56) C dX8_days_56 rfl ?_
            refine zs_iconst (pc := 57) C dX8_days_57 (by decide) ?_
            refine zs_puti (r := 910) (pc := 58) C dX8_days_58 w_X8_94 f_9_10 rfl (r_910 0) (by omega) ?_
            refine zs_aload_n (pc := 61) C dX8_days_61 rfl ?_
            refine zs_getf (pc := 62) C dX8_days_62 w_X8_49 f_9_7 (by decide) ?_
            refine zVv0 (pc := 65) C dX8_days_65 v_X8_97 (c_X2_forget hX ) (by decide) (by decide) ⟨Nat.zero_le _, Nat.zero_le _⟩ (Nat.le_of_ble_eq_true rfl) (fun G65 hp65 => ?_)
            obtain ⟨hz65, hq65⟩ := hp65
            try simp only [zuI_1, zuI_2, zuJ_1, zuJ_2, zuJ_3, zuP_1, zuP_2, zuP_3, zuC_1, zuC_2, reduceIte, Nat.reduceEqDiff, false_and, and_false, true_and, and_true, and_self, or_true, true_or, or_false, false_or] at hq65
            refine zs_aload_n (pc := 68) C dX8_days_68 rfl ?_
            refine zs_getf (pc := 69) C dX8_days_69 w_X8_34 f_9_4 (by decide) ?_
            refine zs_geti (r := 809) (pc := 72) C dX8_days_72 w_X8_221 f_8_9 rfl (r_809 0) (fun v72 e72 l72 u72 => ?_)
            exact zs_iret (pc := 75) C hr hlk dX8_days_75 ⟨by repeat (first | exact zsn_rf | assumption | refine zsn_C (by decide) ?_ | refine zsn_I (by decide) ?_ | refine zsn_J ?_ | refine zsn_P ?_ | refine zsn_m (by assumption) (by decide) ?_ | refine zsn_c (by assumption) (by decide) ?_), (by with_reducible repeat (first | exact RF_rf | assumption | apply RF_I | apply RF_J | apply RF_C | apply RF_P | refine RF_c (by assumption) ?_ | refine RF_m (by assumption) ?_)), trivial⟩
        · skip
          refine zs_aload_n (pc := 17) C dX8_days_17 rfl ?_
          refine zs_getf (pc := 18) C dX8_days_18 w_X8_34 f_9_4 (by decide) ?_
          refine zs_iconst (pc := 21) C dX8_days_21 (by decide) ?_
          refine zs_iconst (pc := 22) C dX8_days_22 (by decide) ?_
          refine zVv2 (pc := 23) C dX8_days_23 v_X8_239 (c_X7_confessOfDay hX ) (by decide) (by decide) ⟨Nat.zero_le _, Nat.zero_le _⟩ (Nat.le_of_ble_eq_true rfl) (fun G23 hp23 => ?_)
          obtain ⟨hz23, hq23⟩ := hp23
          refine zs_aload_n (pc := 26) C dX8_days_26 rfl ?_
          refine zs_getf (pc := 27) C dX8_days_27 w_X8_34 f_9_4 (by decide) ?_
          refine zVv0 (pc := 30) C dX8_days_30 v_X8_242 (c_X7_bakeOfDay hX ) (by decide) (by decide) ⟨Nat.zero_le _, Nat.zero_le _⟩ (Nat.le_of_ble_eq_true rfl) (fun G30 hp30 => ?_)
          obtain ⟨hz30, hq30⟩ := hp30
          refine zs_aload_n (pc := 33) C dX8_days_33 rfl ?_
          refine zs_getf (pc := 34) C dX8_days_34 w_X8_34 f_9_4 (by decide) ?_
          refine zs_dupa (pc := 37) C dX8_days_37 ?_
          refine zs_geti (r := 809) (pc := 38) C dX8_days_38 w_X8_221 f_8_9 rfl (r_809 0) (fun v38 e38 l38 u38 => ?_)
          refine zs_iconst (pc := 41) C dX8_days_41 (by decide) ?_
          first | refine zs_iadd (pc := 42) C dX8_days_42 (by omega) ?_ | refine zs_iaddF (pc := 42) C dX8_days_42 (fun z42 hz421 hz422 => ?_)
          refine zs_puti (r := 809) (pc := 43) C dX8_days_43 w_X8_221 f_8_9 rfl (r_809 0) (by omega) ?_
          first | refine zs_iinc (pc := 46) C dX8_days_46 rfl (by decide) (by omega) ?_ | refine zs_iincF (pc := 46) C dX8_days_46 rfl (by decide) (fun z46 hz461 hz462 => ?_)
          dsimp only [zset, zclr, znone]
          refine zs_goto (tgt := 12) (pc := 49) C dX8_days_49 (by decide) ?_
          exact zs_wk (ih12 _ _ (by first | omega | (simp only [zuI_1, zuI_2, zuJ_1, zuJ_2, zuJ_3, zuP_1, zuP_2, zuP_3, zuC_1, zuC_2, reduceIte, Nat.reduceEqDiff, false_and, and_false, true_and, and_true, and_self, or_true, true_or, or_false, false_or]; omega)) (by repeat (first | exact zsn_rf | assumption | refine zsn_C (by decide) ?_ | refine zsn_I (by decide) ?_ | refine zsn_J ?_ | refine zsn_P ?_ | refine zsn_m (by assumption) (by decide) ?_ | refine zsn_c (by assumption) (by decide) ?_)) (by with_reducible repeat (first | exact RF_rf | assumption | apply RF_I | apply RF_J | apply RF_C | apply RF_P | refine RF_c (by assumption) ?_ | refine RF_m (by assumption) ?_)) (by first | omega | (simp only [zuI_1, zuI_2, zuJ_1, zuJ_2, zuJ_3, zuP_1, zuP_2, zuP_3, zuC_1, zuC_2, reduceIte, Nat.reduceEqDiff, false_and, and_false, true_and, and_true, and_self, or_true, true_or, or_false, false_or]; omega))) (zwk_s rfl (zwk_s rfl (zwk_s rfl zwk_0)))
    exact zs_wk (L12 _ _ _ (by first | omega | (simp only [zuI_1, zuI_2, zuJ_1, zuJ_2, zuJ_3, zuP_1, zuP_2, zuP_3, zuC_1, zuC_2, reduceIte, Nat.reduceEqDiff, false_and, and_false, true_and, and_true, and_self, or_true, true_or, or_false, false_or]; omega)) (by repeat (first | exact zsn_rf | assumption | refine zsn_C (by decide) ?_ | refine zsn_I (by decide) ?_ | refine zsn_J ?_ | refine zsn_P ?_ | refine zsn_m (by assumption) (by decide) ?_ | refine zsn_c (by assumption) (by decide) ?_)) (by with_reducible repeat (first | exact RF_rf | assumption | apply RF_I | apply RF_J | apply RF_C | apply RF_P | refine RF_c (by assumption) ?_ | refine RF_m (by assumption) ?_)) (Nat.lt_succ_self _)) (zwk_s rfl (zwk_s rfl (zwk_s rfl zwk_0)))
  · skip
    refine zs_iconst (pc := 8) C dX8_days_8 (by decide) ?_
    exact zs_iret (pc := 9) C hr hlk dX8_days_9 ⟨by repeat (first | exact zsn_rf | assumption | refine zsn_C (by decide) ?_ | refine zsn_I (by decide) ?_ | refine zsn_J ?_ | refine zsn_P ?_ | refine zsn_m (by assumption) (by decide) ?_ | refine zsn_c (by assumption) (by decide) ?_), (by with_reducible repeat (first | exact RF_rf | assumption | apply RF_I | apply RF_J | apply RF_C | apply RF_P | refine RF_c (by assumption) ?_ | refine RF_m (by assumption) ?_)), trivial⟩

set_option maxHeartbeats 4000000 in
set_option maxRecDepth 100000 in
theorem c_X8_planR {l : Launch} {Γ : zΓ} {G : zH} {w : Nat} {p0 k : Int} (hX : zXs Γ)  : zMet l Γ yX8_plan cX8_plan 3 (some .int) 19 [zr 9 w, zi p0, zi k] G (zpi (fun x G' => zsn [306, 307, 510, 809, 810, 811, 812, 813, 2020, 2021, 2022, 2023, 2024, 2026, 2027, 2028, 2029, 2030, 2031, 2032, 2033, 2034, 2035, 2048, 2049, 2050, 2051, 2052, 2053] G G' ∧ RF G G' ∧ True)) := by
  refine zMet_of RX8 hX (by decide) rfl (Nat.le_of_ble_eq_true rfl) ?_
  intro p e s m args below meth c C hr hlk
  show Z p l e (zrm 19) s m args below meth c Γ 3 0 0 (MQ below (zQc Γ (zpi (fun x G' => zsn [306, 307, 510, 809, 810, 811, 812, 813, 2020, 2021, 2022, 2023, 2024, 2026, 2027, 2028, 2029, 2030, 2031, 2032, 2033, 2034, 2035, 2048, 2049, 2050, 2051, 2052, 2053] G G' ∧ RF G G' ∧ True))) args s 0 0 (zA Γ)) 0 [some (zr 9 w), some (zi p0), some (zi k)] [] G
  refine zs_loc 1 rfl (fun ha1 hb1 => ?_)
  refine zs_loc 2 rfl (fun ha2 hb2 => ?_)
  refine zs_aload_n (pc := 0) C dX8_plan_0 rfl ?_
  refine zs_iload_n (pc := 1) C dX8_plan_1 rfl ?_
  refine zVip1 (pc := 2) C dX8_plan_2 v_X8_245 (c_X8_isOpen hX ) (by decide) (by decide) ⟨Nat.zero_le _, Nat.zero_le _⟩ (Nat.le_of_ble_eq_true rfl) (fun x2 l2 u2 hp2 => ?_)
  have hq2 := hp2
  refine zs_if_eq (tgt := 17) (pc := 5) C dX8_plan_5 (by decide) (fun h5 => ?_) (fun h5 => ?_)
  · skip
    refine zs_iconst (pc := 17) C dX8_plan_17 (by decide) ?_
    exact zs_iret (pc := 18) C hr hlk dX8_plan_18 ⟨by repeat (first | exact zsn_rf | assumption | refine zsn_C (by decide) ?_ | refine zsn_I (by decide) ?_ | refine zsn_J ?_ | refine zsn_P ?_ | refine zsn_m (by assumption) (by decide) ?_ | refine zsn_c (by assumption) (by decide) ?_), (by with_reducible repeat (first | exact RF_rf | assumption | apply RF_I | apply RF_J | apply RF_C | apply RF_P | refine RF_c (by assumption) ?_ | refine RF_m (by assumption) ?_)), trivial⟩
  · skip
    refine zs_iload_n (pc := 8) C dX8_plan_8 rfl ?_
    refine zs_if_lt (tgt := 17) (pc := 9) C dX8_plan_9 (by decide) (fun h9 => ?_) (fun h9 => ?_)
    · skip
      refine zs_iconst (pc := 17) C dX8_plan_17 (by decide) ?_
      exact zs_iret (pc := 18) C hr hlk dX8_plan_18 ⟨by repeat (first | exact zsn_rf | assumption | refine zsn_C (by decide) ?_ | refine zsn_I (by decide) ?_ | refine zsn_J ?_ | refine zsn_P ?_ | refine zsn_m (by assumption) (by decide) ?_ | refine zsn_c (by assumption) (by decide) ?_), (by with_reducible repeat (first | exact RF_rf | assumption | apply RF_I | apply RF_J | apply RF_C | apply RF_P | refine RF_c (by assumption) ?_ | refine RF_m (by assumption) ?_)), trivial⟩
    · skip
      refine zs_iload_n (pc := 12) C dX8_plan_12 rfl ?_
      refine zs_iconst (pc := 13) C dX8_plan_13 (by decide) ?_
      refine zs_icmp_le (tgt := 19) (pc := 14) C dX8_plan_14 (by decide) (fun h14 => ?_) (fun h14 => ?_)
      · skip
        refine zs_aload_n (pc := 19) C dX8_plan_19 rfl ?_
        refine zs_getf (pc := 20) C dX8_plan_20 w_X8_49 f_9_7 (by decide) ?_
        refine zs_aload_n (pc := 23) C dX8_plan_23 rfl ?_
        refine zs_getf (pc := 24) C dX8_plan_24 w_X8_34 f_9_4 (by decide) ?_
        refine zs_iload_n (pc := 27) C dX8_plan_27 rfl ?_
        refine zVv2 (pc := 28) C dX8_plan_28 v_X8_248 (c_X2_planForR hX (by omega)) (by decide) (by decide) ⟨Nat.zero_le _, Nat.zero_le _⟩ (Nat.le_of_ble_eq_true rfl) (fun G28 hp28 => ?_)
        obtain ⟨hz28, lo28, hq28⟩ := hp28
        refine zs_aload_n (pc := 31) C dX8_plan_31 rfl ?_
        refine zs_getf (pc := 32) C dX8_plan_32 w_X8_49 f_9_7 (by decide) ?_
        refine zs_iload_n (pc := 35) C dX8_plan_35 rfl ?_
        refine zVip1 (pc := 36) C dX8_plan_36 v_X8_252 (c_X2_isThere hX (by omega)) (by decide) (by decide) ⟨Nat.zero_le _, Nat.zero_le _⟩ (Nat.le_of_ble_eq_true rfl) (fun x36 l36 u36 hp36 => ?_)
        have hq36 := hp36
        refine zs_if_ne (tgt := 45) (pc := 39) C dX8_plan_39 (by decide) (fun h39 => ?_) (fun h39 => ?_)
        · skip
          refine zs_iload_n (pc := 45) C dX8_plan_45 rfl ?_
          refine zs_if_ne (tgt := 61) (pc := 46) C dX8_plan_46 (by decide) (fun h46 => ?_) (fun h46 => ?_)
          · skip
            refine zs_aload_n (pc := 61) C dX8_plan_61 rfl ?_
            refine zs_getf (pc := 62) C dX8_plan_62 w_X8_49 f_9_7 (by decide) ?_
            refine zs_getf (pc := 65) C dX8_plan_65 w_X8_256 f_3_3 (by decide) ?_
            refine zs_iload_n (pc := 68) C dX8_plan_68 rfl ?_
            refine zs_iald (r := 2022) (pc := 69) C dX8_plan_69 a_22 (by decide) (by omega) rfl (r_2022 _) (fun v69 e69 l69 u69 => ?_)
            exact zs_iret (pc := 70) C hr hlk dX8_plan_70 ⟨by repeat (first | exact zsn_rf | assumption | refine zsn_C (by decide) ?_ | refine zsn_I (by decide) ?_ | refine zsn_J ?_ | refine zsn_P ?_ | refine zsn_m (by assumption) (by decide) ?_ | refine zsn_c (by assumption) (by decide) ?_), (by with_reducible repeat (first | exact RF_rf | assumption | apply RF_I | apply RF_J | apply RF_C | apply RF_P | refine RF_c (by assumption) ?_ | refine RF_m (by assumption) ?_)), trivial⟩
          · skip
            refine zs_aload_n (pc := 49) C dX8_plan_49 rfl ?_
            refine zs_getf (pc := 50) C dX8_plan_50 w_X8_49 f_9_7 (by decide) ?_
            refine zs_getf (pc := 53) C dX8_plan_53 w_X8_255 f_3_2 (by decide) ?_
            refine zs_iload_n (pc := 56) C dX8_plan_56 rfl ?_
            refine zs_iald (r := 2021) (pc := 57) C dX8_plan_57 a_21 (by decide) (by omega) rfl (r_2021 _) (fun v57 e57 l57 u57 => ?_)
            refine zs_goto (tgt := 70) (pc := 58) C dX8_plan_58 (by decide) ?_
            exact zs_iret (pc := 70) C hr hlk dX8_plan_70 ⟨by repeat (first | exact zsn_rf | assumption | refine zsn_C (by decide) ?_ | refine zsn_I (by decide) ?_ | refine zsn_J ?_ | refine zsn_P ?_ | refine zsn_m (by assumption) (by decide) ?_ | refine zsn_c (by assumption) (by decide) ?_), (by with_reducible repeat (first | exact RF_rf | assumption | apply RF_I | apply RF_J | apply RF_C | apply RF_P | refine RF_c (by assumption) ?_ | refine RF_m (by assumption) ?_)), trivial⟩
        · skip
          refine zs_bipush (pc := 42) C dX8_plan_42 (by decide) (by decide) ?_
          exact zs_iret (pc := 44) C hr hlk dX8_plan_44 ⟨by repeat (first | exact zsn_rf | assumption | refine zsn_C (by decide) ?_ | refine zsn_I (by decide) ?_ | refine zsn_J ?_ | refine zsn_P ?_ | refine zsn_m (by assumption) (by decide) ?_ | refine zsn_c (by assumption) (by decide) ?_), (by with_reducible repeat (first | exact RF_rf | assumption | apply RF_I | apply RF_J | apply RF_C | apply RF_P | refine RF_c (by assumption) ?_ | refine RF_m (by assumption) ?_)), trivial⟩
      · skip
        refine zs_iconst (pc := 17) C dX8_plan_17 (by decide) ?_
        exact zs_iret (pc := 18) C hr hlk dX8_plan_18 ⟨by repeat (first | exact zsn_rf | assumption | refine zsn_C (by decide) ?_ | refine zsn_I (by decide) ?_ | refine zsn_J ?_ | refine zsn_P ?_ | refine zsn_m (by assumption) (by decide) ?_ | refine zsn_c (by assumption) (by decide) ?_), (by with_reducible repeat (first | exact RF_rf | assumption | apply RF_I | apply RF_J | apply RF_C | apply RF_P | refine RF_c (by assumption) ?_ | refine RF_m (by assumption) ?_)), trivial⟩

set_option maxHeartbeats 4000000 in
set_option maxRecDepth 100000 in
theorem c_X8_plannedR {l : Launch} {Γ : zΓ} {G : zH} {w : Nat} {p0 i0 k : Int} (hX : zXs Γ)  : zMet l Γ yX8_planned cX8_planned 5 (some .int) 19 [zr 9 w, zi p0, zi i0, zi k] G (zpi (fun x G' => zsn [306, 307, 510, 809, 810, 811, 812, 813, 2020, 2021, 2022, 2023, 2024, 2026, 2027, 2028, 2029, 2030, 2031, 2032, 2033, 2034, 2035, 2048, 2049, 2050, 2051, 2052, 2053] G G' ∧ RF G G' ∧ True)) := by
  refine zMet_of RX8 hX (by decide) rfl (Nat.le_of_ble_eq_true rfl) ?_
  intro p e s m args below meth c C hr hlk
  show Z p l e (zrm 19) s m args below meth c Γ 5 0 0 (MQ below (zQc Γ (zpi (fun x G' => zsn [306, 307, 510, 809, 810, 811, 812, 813, 2020, 2021, 2022, 2023, 2024, 2026, 2027, 2028, 2029, 2030, 2031, 2032, 2033, 2034, 2035, 2048, 2049, 2050, 2051, 2052, 2053] G G' ∧ RF G G' ∧ True))) args s 0 0 (zA Γ)) 0 [some (zr 9 w), some (zi p0), some (zi i0), some (zi k), none] [] G
  refine zs_loc 1 rfl (fun ha1 hb1 => ?_)
  refine zs_loc 2 rfl (fun ha2 hb2 => ?_)
  refine zs_loc 3 rfl (fun ha3 hb3 => ?_)
  refine zs_aload_n (pc := 0) C dX8_planned_0 rfl ?_
  refine zs_iload_n (pc := 1) C dX8_planned_1 rfl ?_
  refine zVip1 (pc := 2) C dX8_planned_2 v_X8_245 (c_X8_isOpen hX ) (by decide) (by decide) ⟨Nat.zero_le _, Nat.zero_le _⟩ (Nat.le_of_ble_eq_true rfl) (fun x2 l2 u2 hp2 => ?_)
  have hq2 := hp2
  refine zs_if_eq (tgt := 21) (pc := 5) C dX8_planned_5 (by decide) (fun h5 => ?_) (fun h5 => ?_)
  · skip
    refine zs_iconst (pc := 21) C dX8_planned_21 (by decide) ?_
    exact zs_iret (pc := 22) C hr hlk dX8_planned_22 ⟨by repeat (first | exact zsn_rf | assumption | refine zsn_C (by decide) ?_ | refine zsn_I (by decide) ?_ | refine zsn_J ?_ | refine zsn_P ?_ | refine zsn_m (by assumption) (by decide) ?_ | refine zsn_c (by assumption) (by decide) ?_), (by with_reducible repeat (first | exact RF_rf | assumption | apply RF_I | apply RF_J | apply RF_C | apply RF_P | refine RF_c (by assumption) ?_ | refine RF_m (by assumption) ?_)), trivial⟩
  · skip
    refine zs_iload_n (pc := 8) C dX8_planned_8 rfl ?_
    refine zs_if_lt (tgt := 21) (pc := 9) C dX8_planned_9 (by decide) (fun h9 => ?_) (fun h9 => ?_)
    · skip
      refine zs_iconst (pc := 21) C dX8_planned_21 (by decide) ?_
      exact zs_iret (pc := 22) C hr hlk dX8_planned_22 ⟨by repeat (first | exact zsn_rf | assumption | refine zsn_C (by decide) ?_ | refine zsn_I (by decide) ?_ | refine zsn_J ?_ | refine zsn_P ?_ | refine zsn_m (by assumption) (by decide) ?_ | refine zsn_c (by assumption) (by decide) ?_), (by with_reducible repeat (first | exact RF_rf | assumption | apply RF_I | apply RF_J | apply RF_C | apply RF_P | refine RF_c (by assumption) ?_ | refine RF_m (by assumption) ?_)), trivial⟩
    · skip
      refine zs_iload_n (pc := 12) C dX8_planned_12 rfl ?_
      refine zs_if_lt (tgt := 21) (pc := 13) C dX8_planned_13 (by decide) (fun h13 => ?_) (fun h13 => ?_)
      · skip
        refine zs_iconst (pc := 21) C dX8_planned_21 (by decide) ?_
        exact zs_iret (pc := 22) C hr hlk dX8_planned_22 ⟨by repeat (first | exact zsn_rf | assumption | refine zsn_C (by decide) ?_ | refine zsn_I (by decide) ?_ | refine zsn_J ?_ | refine zsn_P ?_ | refine zsn_m (by assumption) (by decide) ?_ | refine zsn_c (by assumption) (by decide) ?_), (by with_reducible repeat (first | exact RF_rf | assumption | apply RF_I | apply RF_J | apply RF_C | apply RF_P | refine RF_c (by assumption) ?_ | refine RF_m (by assumption) ?_)), trivial⟩
      · skip
        refine zs_iload_n (pc := 16) C dX8_planned_16 rfl ?_
        refine zs_iconst (pc := 17) C dX8_planned_17 (by decide) ?_
        refine zs_icmp_le (tgt := 23) (pc := 18) C dX8_planned_18 (by decide) (fun h18 => ?_) (fun h18 => ?_)
        · skip
          refine zs_aload_n (pc := 23) C dX8_planned_23 rfl ?_
          refine zs_getf (pc := 24) C dX8_planned_24 w_X8_49 f_9_7 (by decide) ?_
          refine zs_aload_n (pc := 27) C dX8_planned_27 rfl ?_
          refine zs_getf (pc := 28) C dX8_planned_28 w_X8_34 f_9_4 (by decide) ?_
          refine zs_iload_n (pc := 31) C dX8_planned_31 rfl ?_
          refine zVv2 (pc := 32) C dX8_planned_32 v_X8_248 (c_X2_planForR hX (by omega)) (by decide) (by decide) ⟨Nat.zero_le _, Nat.zero_le _⟩ (Nat.le_of_ble_eq_true rfl) (fun G32 hp32 => ?_)
          obtain ⟨hz32, lo32, hq32⟩ := hp32
          refine zs_aload_n (pc := 35) C dX8_planned_35 rfl ?_
          refine zs_getf (pc := 36) C dX8_planned_36 w_X8_49 f_9_7 (by decide) ?_
          refine zs_iload_n (pc := 39) C dX8_planned_39 rfl ?_
          refine zVip1 (pc := 40) C dX8_planned_40 v_X8_252 (c_X2_isThere hX (by omega)) (by decide) (by decide) ⟨Nat.zero_le _, Nat.zero_le _⟩ (Nat.le_of_ble_eq_true rfl) (fun x40 l40 u40 hp40 => ?_)
          have hq40 := hp40
          refine zs_if_eq (tgt := 59) (pc := 43) C dX8_planned_43 (by decide) (fun h43 => ?_) (fun h43 => ?_)
          · skip
            refine zs_bipush (pc := 59) C dX8_planned_59 (by decide) (by decide) ?_
            exact zs_iret (pc := 61) C hr hlk dX8_planned_61 ⟨by repeat (first | exact zsn_rf | assumption | refine zsn_C (by decide) ?_ | refine zsn_I (by decide) ?_ | refine zsn_J ?_ | refine zsn_P ?_ | refine zsn_m (by assumption) (by decide) ?_ | refine zsn_c (by assumption) (by decide) ?_), (by with_reducible repeat (first | exact RF_rf | assumption | apply RF_I | apply RF_J | apply RF_C | apply RF_P | refine RF_c (by assumption) ?_ | refine RF_m (by assumption) ?_)), trivial⟩
          · skip
            refine zs_iload_n (pc := 46) C dX8_planned_46 rfl ?_
            refine zs_aload_n (pc := 47) C dX8_planned_47 rfl ?_
            refine zs_getf (pc := 48) C dX8_planned_48 w_X8_49 f_9_7 (by decide) ?_
            refine zs_getf (pc := 51) C dX8_planned_51 w_X8_256 f_3_3 (by decide) ?_
            refine zs_iload_n (pc := 54) C dX8_planned_54 rfl ?_
            refine zs_iald (r := 2022) (pc := 55) C dX8_planned_55 a_22 (by decide) (by omega) rfl (r_2022 _) (fun v55 e55 l55 u55 => ?_)
            refine zs_icmp_lt (tgt := 62) (pc := 56) C dX8_planned_56 (by decide) (fun h56 => ?_) (fun h56 => ?_)
            · skip
              refine zs_aload_n (pc := 62) C dX8_planned_62 rfl ?_
              refine zs_getf (pc := 63) C dX8_planned_63 w_X8_49 f_9_7 (by decide) ?_
              refine zs_iload_n (pc := 66) C dX8_planned_66 rfl ?_
              refine zs_iload_n (pc := 67) C dX8_planned_67 rfl ?_
              refine zVip2 (pc := 68) C dX8_planned_68 v_X8_259 (c_X2_stepOf hX (by omega)) (by decide) (by decide) ⟨Nat.zero_le _, Nat.zero_le _⟩ (Nat.le_of_ble_eq_true rfl) (fun x68 l68 u68 hp68 => ?_)
              have hq68 := hp68
              refine zs_istore (pc := 71) C dX8_planned_71 (by decide) ?_
              dsimp only [zset, zclr, znone]
              refine zs_iload_n (pc := 73) C dX8_planned_73 rfl ?_
              refine zs_if_ne (tgt := 84) (pc := 74) C dX8_planned_74 (by decide) (fun h74 => ?_) (fun h74 => ?_)
              · skip
                refine zs_iload (pc := 84) C dX8_planned_84 rfl ?_
                refine zs_iconst (pc := 86) C dX8_planned_86 (by decide) ?_
                first | refine zs_irem (pc := 87) C dX8_planned_87 (by omega) (by omega) (fun hz871 hz872 => ?_) | refine zs_iremF (pc := 87) C dX8_planned_87 (by omega) (fun z87 hz871 hz872 => ?_)
                exact zs_iret (pc := 88) C hr hlk dX8_planned_88 ⟨by repeat (first | exact zsn_rf | assumption | refine zsn_C (by decide) ?_ | refine zsn_I (by decide) ?_ | refine zsn_J ?_ | refine zsn_P ?_ | refine zsn_m (by assumption) (by decide) ?_ | refine zsn_c (by assumption) (by decide) ?_), (by with_reducible repeat (first | exact RF_rf | assumption | apply RF_I | apply RF_J | apply RF_C | apply RF_P | refine RF_c (by assumption) ?_ | refine RF_m (by assumption) ?_)), trivial⟩
              · skip
                refine zs_iload (pc := 77) C dX8_planned_77 rfl ?_
                refine zs_iconst (pc := 79) C dX8_planned_79 (by decide) ?_
                first | refine zs_idiv (pc := 80) C dX8_planned_80 (by omega) (by omega) (fun hz801 hz802 => ?_) | refine zs_idivF (pc := 80) C dX8_planned_80 (by omega) (fun z80 hz801 hz802 => ?_)
                refine zs_goto (tgt := 88) (pc := 81) C dX8_planned_81 (by decide) ?_
                exact zs_iret (pc := 88) C hr hlk dX8_planned_88 ⟨by repeat (first | exact zsn_rf | assumption | refine zsn_C (by decide) ?_ | refine zsn_I (by decide) ?_ | refine zsn_J ?_ | refine zsn_P ?_ | refine zsn_m (by assumption) (by decide) ?_ | refine zsn_c (by assumption) (by decide) ?_), (by with_reducible repeat (first | exact RF_rf | assumption | apply RF_I | apply RF_J | apply RF_C | apply RF_P | refine RF_c (by assumption) ?_ | refine RF_m (by assumption) ?_)), trivial⟩
            · skip
              refine zs_bipush (pc := 59) C dX8_planned_59 (by decide) (by decide) ?_
              exact zs_iret (pc := 61) C hr hlk dX8_planned_61 ⟨by repeat (first | exact zsn_rf | assumption | refine zsn_C (by decide) ?_ | refine zsn_I (by decide) ?_ | refine zsn_J ?_ | refine zsn_P ?_ | refine zsn_m (by assumption) (by decide) ?_ | refine zsn_c (by assumption) (by decide) ?_), (by with_reducible repeat (first | exact RF_rf | assumption | apply RF_I | apply RF_J | apply RF_C | apply RF_P | refine RF_c (by assumption) ?_ | refine RF_m (by assumption) ?_)), trivial⟩
        · skip
          refine zs_iconst (pc := 21) C dX8_planned_21 (by decide) ?_
          exact zs_iret (pc := 22) C hr hlk dX8_planned_22 ⟨by repeat (first | exact zsn_rf | assumption | refine zsn_C (by decide) ?_ | refine zsn_I (by decide) ?_ | refine zsn_J ?_ | refine zsn_P ?_ | refine zsn_m (by assumption) (by decide) ?_ | refine zsn_c (by assumption) (by decide) ?_), (by with_reducible repeat (first | exact RF_rf | assumption | apply RF_I | apply RF_J | apply RF_C | apply RF_P | refine RF_c (by assumption) ?_ | refine RF_m (by assumption) ?_)), trivial⟩

set_option maxHeartbeats 4000000 in
set_option maxRecDepth 100000 in
theorem c_X8_crumbR {l : Launch} {Γ : zΓ} {G : zH} {w : Nat} {a k : Int} (hX : zXs Γ)  : zMet l Γ yX8_crumb cX8_crumb 6 (some .int) 4 [zr 9 w, zi a, zi k] G (zpi (fun x G' => zsn [] G G' ∧ RF G G' ∧ True)) := by
  refine zMet_of RX8 hX (by decide) rfl (Nat.le_of_ble_eq_true rfl) ?_
  intro p e s m args below meth c C hr hlk
  show Z p l e (zrm 4) s m args below meth c Γ 6 0 0 (MQ below (zQc Γ (zpi (fun x G' => zsn [] G G' ∧ RF G G' ∧ True))) args s 0 0 (zA Γ)) 0 [some (zr 9 w), some (zi a), some (zi k), none, none, none] [] G
  refine zs_loc 1 rfl (fun ha1 hb1 => ?_)
  refine zs_loc 2 rfl (fun ha2 hb2 => ?_)
  refine zs_aload_n (pc := 0) C dX8_crumb_0 rfl ?_
  refine zs_getf (pc := 1) C dX8_crumb_1 w_X8_34 f_9_4 (by decide) ?_
  refine zs_getf (pc := 4) C dX8_crumb_4 w_X8_172 f_8_1 (by decide) ?_
  refine zs_iload_n (pc := 7) C dX8_crumb_7 rfl ?_
  refine zVip1 (pc := 8) C dX8_crumb_8 v_X8_197 (c_X4_has hX ) (by decide) (by decide) ⟨Nat.zero_le _, Nat.zero_le _⟩ (Nat.le_of_ble_eq_true rfl) (fun x8 l8 u8 hp8 => ?_)
  have hq8 := hp8
  refine zs_if_eq (tgt := 23) (pc := 11) C dX8_crumb_11 (by decide) (fun h11 => ?_) (fun h11 => ?_)
  · skip
    refine zs_iconst (pc := 23) C dX8_crumb_23 (by decide) ?_
    exact zs_iret (pc := 24) C hr hlk dX8_crumb_24 ⟨by repeat (first | exact zsn_rf | assumption | refine zsn_C (by decide) ?_ | refine zsn_I (by decide) ?_ | refine zsn_J ?_ | refine zsn_P ?_ | refine zsn_m (by assumption) (by decide) ?_ | refine zsn_c (by assumption) (by decide) ?_), (by with_reducible repeat (first | exact RF_rf | assumption | apply RF_I | apply RF_J | apply RF_C | apply RF_P | refine RF_c (by assumption) ?_ | refine RF_m (by assumption) ?_)), trivial⟩
  · skip
    refine zs_iload_n (pc := 14) C dX8_crumb_14 rfl ?_
    refine zs_if_lt (tgt := 23) (pc := 15) C dX8_crumb_15 (by decide) (fun h15 => ?_) (fun h15 => ?_)
    · skip
      refine zs_iconst (pc := 23) C dX8_crumb_23 (by decide) ?_
      exact zs_iret (pc := 24) C hr hlk dX8_crumb_24 ⟨by repeat (first | exact zsn_rf | assumption | refine zsn_C (by decide) ?_ | refine zsn_I (by decide) ?_ | refine zsn_J ?_ | refine zsn_P ?_ | refine zsn_m (by assumption) (by decide) ?_ | refine zsn_c (by assumption) (by decide) ?_), (by with_reducible repeat (first | exact RF_rf | assumption | apply RF_I | apply RF_J | apply RF_C | apply RF_P | refine RF_c (by assumption) ?_ | refine RF_m (by assumption) ?_)), trivial⟩
    · skip
      refine zs_iload_n (pc := 18) C dX8_crumb_18 rfl ?_
      refine zs_iconst (pc := 19) C dX8_crumb_19 (by decide) ?_
      refine zs_icmp_le (tgt := 25) (pc := 20) C dX8_crumb_20 (by decide) (fun h20 => ?_) (fun h20 => ?_)
      · skip
        refine zs_iconst (pc := 25) C dX8_crumb_25 (by decide) ?_
        refine zs_istore_n (pc := 26) C dX8_crumb_26 (by decide) ?_
        dsimp only [zset, zclr, znone]
        refine zs_iconst (pc := 27) C dX8_crumb_27 (by decide) ?_
        refine zs_istore (pc := 28) C dX8_crumb_28 (by decide) ?_
        dsimp only [zset, zclr, znone]
        refine zs_iconst (pc := 30) C dX8_crumb_30 (by decide) ?_
        refine zs_istore (pc := 31) C dX8_crumb_31 (by decide) ?_
        dsimp only [zset, zclr, znone]
        have L33 : ∀ (nn : Nat) (x3 x4 x5 : Int) (G1 : zH), (0 ≤ x5 ∧ x5 ≤ 4) → (zsn [] G G1) → (RF G G1) → (4 - x5).toNat < nn → Z p l e (zrm 4) s m args below meth c Γ 6 0 0 (MQ below (zQc Γ (zpi (fun x G' => zsn [] G G' ∧ RF G G' ∧ True))) args s 0 0 (zA Γ)) 33 [some (zr 9 w), some (zi a), some (zi k), some (zi x3), some (zi x4), some (zi x5)] [] G1 := by
          intro nn
          induction nn with
          | zero => intro x3 x4 x5 G1 h33_0 h33_1 h33_2 hm; exact absurd hm (Nat.not_lt_zero _)
          | succ nn ih33 =>
            intro x3 x4 x5 G1 h33_0 h33_1 h33_2 hm33
            refine zs_iload (pc := 33) C dX8_crumb_33 rfl ?_
            refine zs_aload_n (pc := 35) C dX8_crumb_35 rfl ?_
            refine zs_getd (r := 903) (pc := 36) C dX8_crumb_36 w_X8_25 f_9_3 (by decide) rfl (fun v36 e36 t36 => ?_)
            refine zs_getf (pc := 39) C dX8_crumb_39 w_X8_262 f_6_2 (by decide) ?_
            refine zs_iconst (pc := 42) C dX8_crumb_42 (by decide) ?_
            refine zs_iald (r := 2037) (pc := 43) C dX8_crumb_43 a_37 (by decide) (by omega) rfl rfl (fun v43 e43 l43 u43 => ?_)
            have hsz := rs_2037 (0 : Int).toNat
            refine zs_icmp_ge (tgt := 117) (pc := 44) C dX8_crumb_44 (by decide) (fun h44 => ?_) (fun h44 => ?_)
            · skip
              refine zs_iload_n (pc := 117) C dX8_crumb_117 rfl ?_
              refine zs_name (fun y118 ey118 => ?_)
              rcases (show y118 = 0 ∨ y118 = 1 ∨ (y118 ≠ 0 ∧ y118 ≠ 1) by omega) with h118 | h118 | h118
              · skip
                refine zs_look (tgt := 144) (pc := 118) C dX8_crumb_118 (by decide) (by first | (rw [h118]; done) | (rw [h118]; rfl)) (by decide) ?_
                refine zs_iload_n (pc := 144) C dX8_crumb_144 rfl ?_
                exact zs_iret (pc := 145) C hr hlk dX8_crumb_145 ⟨by repeat (first | exact zsn_rf | assumption | refine zsn_C (by decide) ?_ | refine zsn_I (by decide) ?_ | refine zsn_J ?_ | refine zsn_P ?_ | refine zsn_m (by assumption) (by decide) ?_ | refine zsn_c (by assumption) (by decide) ?_), (by with_reducible repeat (first | exact RF_rf | assumption | apply RF_I | apply RF_J | apply RF_C | apply RF_P | refine RF_c (by assumption) ?_ | refine RF_m (by assumption) ?_)), trivial⟩
              · skip
                refine zs_look (tgt := 146) (pc := 118) C dX8_crumb_118 (by decide) (by first | (rw [h118]; done) | (rw [h118]; rfl)) (by decide) ?_
                refine zs_iload (pc := 146) C dX8_crumb_146 rfl ?_
                exact zs_iret (pc := 148) C hr hlk dX8_crumb_148 ⟨by repeat (first | exact zsn_rf | assumption | refine zsn_C (by decide) ?_ | refine zsn_I (by decide) ?_ | refine zsn_J ?_ | refine zsn_P ?_ | refine zsn_m (by assumption) (by decide) ?_ | refine zsn_c (by assumption) (by decide) ?_), (by with_reducible repeat (first | exact RF_rf | assumption | apply RF_I | apply RF_J | apply RF_C | apply RF_P | refine RF_c (by assumption) ?_ | refine RF_m (by assumption) ?_)), trivial⟩
              · skip
                refine zs_look (off := 31) (tgt := 149) (pc := 118) C dX8_crumb_118 (by decide) (by have h9 := h118; simp [Op.lookupswitch.offset]; omega) (by decide) ?_
                refine zs_aload_n (pc := 149) C dX8_crumb_149 rfl ?_
                refine zs_iload_n (pc := 150) C dX8_crumb_150 rfl ?_
                refine zs_iload_n (pc := 151) C dX8_crumb_151 rfl ?_
                refine zs_iload (pc := 152) C dX8_crumb_152 rfl ?_
                refine zs_iload_n (pc := 154) C dX8_crumb_154 rfl ?_
                refine zs_iconst (pc := 155) C dX8_crumb_155 (by decide) ?_
                refine zs_icmp_ne (tgt := 163) (pc := 156) C dX8_crumb_156 (by decide) (fun h156 => ?_) (fun h156 => ?_)
                · skip
                  refine zs_iconst (pc := 163) C dX8_crumb_163 (by decide) ?_
                  refine zVip4 (pc := 164) C dX8_crumb_164 v_X8_269 (c_X8_oddsOfLie hX (by omega)) (by decide) (by decide) ⟨Nat.zero_le _, Nat.zero_le _⟩ (Nat.le_of_ble_eq_true rfl) (fun x164 l164 u164 hp164 => ?_)
                  have hq164 := hp164
                  exact zs_iret (pc := 167) C hr hlk dX8_crumb_167 ⟨by repeat (first | exact zsn_rf | assumption | refine zsn_C (by decide) ?_ | refine zsn_I (by decide) ?_ | refine zsn_J ?_ | refine zsn_P ?_ | refine zsn_m (by assumption) (by decide) ?_ | refine zsn_c (by assumption) (by decide) ?_), (by with_reducible repeat (first | exact RF_rf | assumption | apply RF_I | apply RF_J | apply RF_C | apply RF_P | refine RF_c (by assumption) ?_ | refine RF_m (by assumption) ?_)), trivial⟩
                · skip
                  refine zs_iconst (pc := 159) C dX8_crumb_159 (by decide) ?_
                  refine zs_goto (tgt := 164) (pc := 160) C dX8_crumb_160 (by decide) ?_
                  refine zVip4 (pc := 164) C dX8_crumb_164 v_X8_269 (c_X8_oddsOfLie hX (by omega)) (by decide) (by decide) ⟨Nat.zero_le _, Nat.zero_le _⟩ (Nat.le_of_ble_eq_true rfl) (fun x164 l164 u164 hp164 => ?_)
                  have hq164 := hp164
                  exact zs_iret (pc := 167) C hr hlk dX8_crumb_167 ⟨by repeat (first | exact zsn_rf | assumption | refine zsn_C (by decide) ?_ | refine zsn_I (by decide) ?_ | refine zsn_J ?_ | refine zsn_P ?_ | refine zsn_m (by assumption) (by decide) ?_ | refine zsn_c (by assumption) (by decide) ?_), (by with_reducible repeat (first | exact RF_rf | assumption | apply RF_I | apply RF_J | apply RF_C | apply RF_P | refine RF_c (by assumption) ?_ | refine RF_m (by assumption) ?_)), trivial⟩
            · skip
              refine zs_aload_n (pc := 47) C dX8_crumb_47 rfl ?_
              refine zs_getf (pc := 48) C dX8_crumb_48 w_X8_34 f_9_4 (by decide) ?_
              refine zs_iload_n (pc := 51) C dX8_crumb_51 rfl ?_
              refine zs_iconst (pc := 52) C dX8_crumb_52 (by decide) ?_
              refine zs_iload (pc := 53) C dX8_crumb_53 rfl ?_
              refine zVi3 (pc := 55) C dX8_crumb_55 v_X8_265 (c_X7_fineThen hX (by omega) (by omega)) (by decide) (by decide) ⟨Nat.zero_le _, Nat.zero_le _⟩ (Nat.le_of_ble_eq_true rfl) (fun x55 G55 l55 u55 hp55 => ?_)
              obtain ⟨hz55, hq55⟩ := hp55
              refine zs_aload_n (pc := 58) C dX8_crumb_58 rfl ?_
              refine zs_getf (pc := 59) C dX8_crumb_59 w_X8_34 f_9_4 (by decide) ?_
              refine zs_getf (pc := 62) C dX8_crumb_62 w_X8_172 f_8_1 (by decide) ?_
              refine zs_getf (pc := 65) C dX8_crumb_65 w_X8_206 f_5_2 (by decide) ?_
              refine zs_iload_n (pc := 68) C dX8_crumb_68 rfl ?_
              refine zs_iald (r := 2028) (pc := 69) C dX8_crumb_69 a_28 (by decide) (by omega) rfl (r_2028 _) (fun v69 e69 l69 u69 => ?_)
              refine zs_icmp_eq (tgt := 76) (pc := 70) C dX8_crumb_70 (by decide) (fun h70 => ?_) (fun h70 => ?_)
              · skip
                refine zs_aload_n (pc := 76) C dX8_crumb_76 rfl ?_
                refine zs_getf (pc := 77) C dX8_crumb_77 w_X8_34 f_9_4 (by decide) ?_
                refine zs_getf (pc := 80) C dX8_crumb_80 w_X8_172 f_8_1 (by decide) ?_
                refine zs_iload_n (pc := 83) C dX8_crumb_83 rfl ?_
                refine zs_iload (pc := 84) C dX8_crumb_84 rfl ?_
                refine zVip2 (pc := 86) C dX8_crumb_86 v_X8_212 (c_X4_lieBy hX (by omega)) (by decide) (by decide) ⟨Nat.zero_le _, Nat.zero_le _⟩ (Nat.le_of_ble_eq_true rfl) (fun x86 l86 u86 hp86 => ?_)
                have hq86 := hp86
                refine zs_if_ne (tgt := 102) (pc := 89) C dX8_crumb_89 (by decide) (fun h89 => ?_) (fun h89 => ?_)
                · skip
                  refine zs_iload (pc := 102) C dX8_crumb_102 rfl ?_
                  refine zs_iconst (pc := 104) C dX8_crumb_104 (by decide) ?_
                  refine zs_iload (pc := 105) C dX8_crumb_105 rfl ?_
                  refine zs_ishlF (pc := 107) C dX8_crumb_107 (fun z107 hz1071 hz1072 => ?_)
                  refine zs_iorF (pc := 108) C dX8_crumb_108 (fun z108 hz1081 hz1082 => ?_)
                  refine zs_istore (pc := 109) C dX8_crumb_109 (by decide) ?_
                  dsimp only [zset, zclr, znone]
                  first | refine zs_iinc (pc := 111) C dX8_crumb_111 rfl (by decide) (by omega) ?_ | refine zs_iincF (pc := 111) C dX8_crumb_111 rfl (by decide) (fun z111 hz1111 hz1112 => ?_)
                  dsimp only [zset, zclr, znone]
                  refine zs_goto (tgt := 33) (pc := 114) C dX8_crumb_114 (by decide) ?_
                  exact zs_wk (ih33 _ _ _ _ (by first | omega | (simp only [zuI_1, zuI_2, zuJ_1, zuJ_2, zuJ_3, zuP_1, zuP_2, zuP_3, zuC_1, zuC_2, reduceIte, Nat.reduceEqDiff, false_and, and_false, true_and, and_true, and_self, or_true, true_or, or_false, false_or]; omega)) (by repeat (first | exact zsn_rf | assumption | refine zsn_C (by decide) ?_ | refine zsn_I (by decide) ?_ | refine zsn_J ?_ | refine zsn_P ?_ | refine zsn_m (by assumption) (by decide) ?_ | refine zsn_c (by assumption) (by decide) ?_)) (by with_reducible repeat (first | exact RF_rf | assumption | apply RF_I | apply RF_J | apply RF_C | apply RF_P | refine RF_c (by assumption) ?_ | refine RF_m (by assumption) ?_)) (by first | omega | (simp only [zuI_1, zuI_2, zuJ_1, zuJ_2, zuJ_3, zuP_1, zuP_2, zuP_3, zuC_1, zuC_2, reduceIte, Nat.reduceEqDiff, false_and, and_false, true_and, and_true, and_self, or_true, true_or, or_false, false_or]; omega))) (zwk_s rfl (zwk_s rfl (zwk_s rfl (zwk_s rfl (zwk_s rfl (zwk_s rfl zwk_0))))))
                · skip
                  refine zs_iload_n (pc := 92) C dX8_crumb_92 rfl ?_
                  refine zs_iconst (pc := 93) C dX8_crumb_93 (by decide) ?_
                  refine zs_iload (pc := 94) C dX8_crumb_94 rfl ?_
                  refine zs_ishlF (pc := 96) C dX8_crumb_96 (fun z96 hz961 hz962 => ?_)
                  refine zs_iorF (pc := 97) C dX8_crumb_97 (fun z97 hz971 hz972 => ?_)
                  refine zs_istore_n (pc := 98) C dX8_crumb_98 (by decide) ?_
                  dsimp only [zset, zclr, znone]
                  refine zs_goto (tgt := 111) (pc := 99) C dX8_crumb_99 (by decide) ?_
                  first | refine zs_iinc (pc := 111) C dX8_crumb_111 rfl (by decide) (by omega) ?_ | refine zs_iincF (pc := 111) C dX8_crumb_111 rfl (by decide) (fun z111 hz1111 hz1112 => ?_)
                  dsimp only [zset, zclr, znone]
                  refine zs_goto (tgt := 33) (pc := 114) C dX8_crumb_114 (by decide) ?_
                  exact zs_wk (ih33 _ _ _ _ (by first | omega | (simp only [zuI_1, zuI_2, zuJ_1, zuJ_2, zuJ_3, zuP_1, zuP_2, zuP_3, zuC_1, zuC_2, reduceIte, Nat.reduceEqDiff, false_and, and_false, true_and, and_true, and_self, or_true, true_or, or_false, false_or]; omega)) (by repeat (first | exact zsn_rf | assumption | refine zsn_C (by decide) ?_ | refine zsn_I (by decide) ?_ | refine zsn_J ?_ | refine zsn_P ?_ | refine zsn_m (by assumption) (by decide) ?_ | refine zsn_c (by assumption) (by decide) ?_)) (by with_reducible repeat (first | exact RF_rf | assumption | apply RF_I | apply RF_J | apply RF_C | apply RF_P | refine RF_c (by assumption) ?_ | refine RF_m (by assumption) ?_)) (by first | omega | (simp only [zuI_1, zuI_2, zuJ_1, zuJ_2, zuJ_3, zuP_1, zuP_2, zuP_3, zuC_1, zuC_2, reduceIte, Nat.reduceEqDiff, false_and, and_false, true_and, and_true, and_self, or_true, true_or, or_false, false_or]; omega))) (zwk_s rfl (zwk_s rfl (zwk_s rfl (zwk_s rfl (zwk_s rfl (zwk_s rfl zwk_0))))))
              · skip
                refine zs_goto (tgt := 111) (pc := 73) C dX8_crumb_73 (by decide) ?_
                first | refine zs_iinc (pc := 111) C dX8_crumb_111 rfl (by decide) (by omega) ?_ | refine zs_iincF (pc := 111) C dX8_crumb_111 rfl (by decide) (fun z111 hz1111 hz1112 => ?_)
                dsimp only [zset, zclr, znone]
                refine zs_goto (tgt := 33) (pc := 114) C dX8_crumb_114 (by decide) ?_
                exact zs_wk (ih33 _ _ _ _ (by first | omega | (simp only [zuI_1, zuI_2, zuJ_1, zuJ_2, zuJ_3, zuP_1, zuP_2, zuP_3, zuC_1, zuC_2, reduceIte, Nat.reduceEqDiff, false_and, and_false, true_and, and_true, and_self, or_true, true_or, or_false, false_or]; omega)) (by repeat (first | exact zsn_rf | assumption | refine zsn_C (by decide) ?_ | refine zsn_I (by decide) ?_ | refine zsn_J ?_ | refine zsn_P ?_ | refine zsn_m (by assumption) (by decide) ?_ | refine zsn_c (by assumption) (by decide) ?_)) (by with_reducible repeat (first | exact RF_rf | assumption | apply RF_I | apply RF_J | apply RF_C | apply RF_P | refine RF_c (by assumption) ?_ | refine RF_m (by assumption) ?_)) (by first | omega | (simp only [zuI_1, zuI_2, zuJ_1, zuJ_2, zuJ_3, zuP_1, zuP_2, zuP_3, zuC_1, zuC_2, reduceIte, Nat.reduceEqDiff, false_and, and_false, true_and, and_true, and_self, or_true, true_or, or_false, false_or]; omega))) (zwk_s rfl (zwk_s rfl (zwk_s rfl (zwk_s rfl (zwk_s rfl (zwk_s rfl zwk_0))))))
        exact zs_wk (L33 _ _ _ _ _ (by first | omega | (simp only [zuI_1, zuI_2, zuJ_1, zuJ_2, zuJ_3, zuP_1, zuP_2, zuP_3, zuC_1, zuC_2, reduceIte, Nat.reduceEqDiff, false_and, and_false, true_and, and_true, and_self, or_true, true_or, or_false, false_or]; omega)) (by repeat (first | exact zsn_rf | assumption | refine zsn_C (by decide) ?_ | refine zsn_I (by decide) ?_ | refine zsn_J ?_ | refine zsn_P ?_ | refine zsn_m (by assumption) (by decide) ?_ | refine zsn_c (by assumption) (by decide) ?_)) (by with_reducible repeat (first | exact RF_rf | assumption | apply RF_I | apply RF_J | apply RF_C | apply RF_P | refine RF_c (by assumption) ?_ | refine RF_m (by assumption) ?_)) (Nat.lt_succ_self _)) (zwk_s rfl (zwk_s rfl (zwk_s rfl (zwk_s rfl (zwk_s rfl (zwk_s rfl zwk_0))))))
      · skip
        refine zs_iconst (pc := 23) C dX8_crumb_23 (by decide) ?_
        exact zs_iret (pc := 24) C hr hlk dX8_crumb_24 ⟨by repeat (first | exact zsn_rf | assumption | refine zsn_C (by decide) ?_ | refine zsn_I (by decide) ?_ | refine zsn_J ?_ | refine zsn_P ?_ | refine zsn_m (by assumption) (by decide) ?_ | refine zsn_c (by assumption) (by decide) ?_), (by with_reducible repeat (first | exact RF_rf | assumption | apply RF_I | apply RF_J | apply RF_C | apply RF_P | refine RF_c (by assumption) ?_ | refine RF_m (by assumption) ?_)), trivial⟩

set_option maxHeartbeats 4000000 in
set_option maxRecDepth 100000 in
theorem c_X8_flourOfRunR {l : Launch} {Γ : zΓ} {G : zH} {w : Nat} {k i0 a b : Int} (hX : zXs Γ)  : zMet l Γ yX8_flourOfRun cX8_flourOfRun 6 (some .int) 5 [zr 9 w, zi k, zi i0, zi a, zi b] G (zpi (fun x G' => zsn [510, 2026, 2027, 2028, 2029, 2030, 2031, 2032, 2033, 2034, 2035, 2048, 2049, 2050, 2051, 2052, 2053, 809, 810, 811, 812, 813] G G' ∧ RF G G' ∧ True)) := by
  refine zMet_of RX8 hX (by decide) rfl (Nat.le_of_ble_eq_true rfl) ?_
  intro p e s m args below meth c C hr hlk
  show Z p l e (zrm 5) s m args below meth c Γ 6 0 0 (MQ below (zQc Γ (zpi (fun x G' => zsn [510, 2026, 2027, 2028, 2029, 2030, 2031, 2032, 2033, 2034, 2035, 2048, 2049, 2050, 2051, 2052, 2053, 809, 810, 811, 812, 813] G G' ∧ RF G G' ∧ True))) args s 0 0 (zA Γ)) 0 [some (zr 9 w), some (zi k), some (zi i0), some (zi a), some (zi b), none] [] G
  refine zs_loc 1 rfl (fun ha1 hb1 => ?_)
  refine zs_loc 2 rfl (fun ha2 hb2 => ?_)
  refine zs_loc 3 rfl (fun ha3 hb3 => ?_)
  refine zs_loc 4 rfl (fun ha4 hb4 => ?_)
  refine zs_aload_n (pc := 0) C dX8_flourOfRun_0 rfl ?_
  refine zs_getf (pc := 1) C dX8_flourOfRun_1 w_X8_41 f_9_6 (by decide) ?_
  refine zs_aload_n (pc := 4) C dX8_flourOfRun_4 rfl ?_
  refine zs_getf (pc := 5) C dX8_flourOfRun_5 w_X8_34 f_9_4 (by decide) ?_
  refine zVv1 (pc := 8) C dX8_flourOfRun_8 v_X8_288 (c_X7_copyFromR hX ) (by decide) (by decide) ⟨Nat.zero_le _, Nat.zero_le _⟩ (Nat.le_of_ble_eq_true rfl) (fun G8 hp8 => ?_)
  obtain ⟨hz8, lo8, hq8⟩ := hp8
  refine zs_iconst (pc := 11) C dX8_flourOfRun_11 (by decide) ?_
  refine zs_istore (pc := 12) C dX8_flourOfRun_12 (by decide) ?_
  dsimp only [zset, zclr, znone]
  have L14 : ∀ (nn : Nat) (x5 : Int) (G1 : zH), (0 ≤ x5) → (zsn [510, 2026, 2027, 2028, 2029, 2030, 2031, 2032, 2033, 2034, 2035, 2048, 2049, 2050, 2051, 2052, 2053, 809, 810, 811, 812, 813] G G1) → (RF G G1) → (a - x5).toNat < nn → Z p l e (zrm 5) s m args below meth c Γ 6 0 0 (MQ below (zQc Γ (zpi (fun x G' => zsn [510, 2026, 2027, 2028, 2029, 2030, 2031, 2032, 2033, 2034, 2035, 2048, 2049, 2050, 2051, 2052, 2053, 809, 810, 811, 812, 813] G G' ∧ RF G G' ∧ True))) args s 0 0 (zA Γ)) 14 [some (zr 9 w), some (zi k), some (zi i0), some (zi a), some (zi b), some (zi x5)] [] G1 := by
    intro nn
    induction nn with
    | zero => intro x5 G1 h14_0 h14_1 h14_2 hm; exact absurd hm (Nat.not_lt_zero _)
    | succ nn ih14 =>
      intro x5 G1 h14_0 h14_1 h14_2 hm14
      refine zs_iload (pc := 14) C dX8_flourOfRun_14 rfl ?_
      refine zs_iload_n (pc := 16) C dX8_flourOfRun_16 rfl ?_
      refine zs_icmp_ge (tgt := 48) (pc := 17) C dX8_flourOfRun_17 (by decide) (fun h17 => ?_) (fun h17 => ?_)
      · skip
        refine zs_aload_n (pc := 48) C dX8_flourOfRun_48 rfl ?_
        refine zs_getf (pc := 49) C dX8_flourOfRun_49 w_X8_41 f_9_6 (by decide) ?_
        refine zs_getf (pc := 52) C dX8_flourOfRun_52 w_X8_172 f_8_1 (by decide) ?_
        refine zs_iload (pc := 55) C dX8_flourOfRun_55 rfl ?_
        refine zVip1 (pc := 57) C dX8_flourOfRun_57 v_X8_218 (c_X4_flourFrom hX ) (by decide) (by decide) ⟨Nat.zero_le _, Nat.zero_le _⟩ (Nat.le_of_ble_eq_true rfl) (fun x57 l57 u57 hp57 => ?_)
        have hq57 := hp57
        exact zs_iret (pc := 60) C hr hlk dX8_flourOfRun_60 ⟨by repeat (first | exact zsn_rf | assumption | refine zsn_C (by decide) ?_ | refine zsn_I (by decide) ?_ | refine zsn_J ?_ | refine zsn_P ?_ | refine zsn_m (by assumption) (by decide) ?_ | refine zsn_c (by assumption) (by decide) ?_), (by with_reducible repeat (first | exact RF_rf | assumption | apply RF_I | apply RF_J | apply RF_C | apply RF_P | refine RF_c (by assumption) ?_ | refine RF_m (by assumption) ?_)), trivial⟩
      · skip
        refine zs_aload_n (pc := 20) C dX8_flourOfRun_20 rfl ?_
        refine zs_getf (pc := 21) C dX8_flourOfRun_21 w_X8_41 f_9_6 (by decide) ?_
        refine zs_iload_n (pc := 24) C dX8_flourOfRun_24 rfl ?_
        refine zs_iload_n (pc := 25) C dX8_flourOfRun_25 rfl ?_
        refine zVv2 (pc := 26) C dX8_flourOfRun_26 v_X8_239 (c_X7_confessOfDay hX ) (by decide) (by decide) ⟨Nat.zero_le _, Nat.zero_le _⟩ (Nat.le_of_ble_eq_true rfl) (fun G26 hp26 => ?_)
        obtain ⟨hz26, hq26⟩ := hp26
        refine zs_aload_n (pc := 29) C dX8_flourOfRun_29 rfl ?_
        refine zs_getf (pc := 30) C dX8_flourOfRun_30 w_X8_41 f_9_6 (by decide) ?_
        refine zs_dupa (pc := 33) C dX8_flourOfRun_33 ?_
        refine zs_geti (r := 809) (pc := 34) C dX8_flourOfRun_34 w_X8_221 f_8_9 rfl (r_809 0) (fun v34 e34 l34 u34 => ?_)
        refine zs_iconst (pc := 37) C dX8_flourOfRun_37 (by decide) ?_
        first | refine zs_iadd (pc := 38) C dX8_flourOfRun_38 (by omega) ?_ | refine zs_iaddF (pc := 38) C dX8_flourOfRun_38 (fun z38 hz381 hz382 => ?_)
        refine zs_puti (r := 809) (pc := 39) C dX8_flourOfRun_39 w_X8_221 f_8_9 rfl (r_809 0) (by omega) ?_
        first | refine zs_iinc (pc := 42) C dX8_flourOfRun_42 rfl (by decide) (by omega) ?_ | refine zs_iincF (pc := 42) C dX8_flourOfRun_42 rfl (by decide) (fun z42 hz421 hz422 => ?_)
        dsimp only [zset, zclr, znone]
        refine zs_goto (tgt := 14) (pc := 45) C dX8_flourOfRun_45 (by decide) ?_
        exact zs_wk (ih14 _ _ (by first | omega | (simp only [zuI_1, zuI_2, zuJ_1, zuJ_2, zuJ_3, zuP_1, zuP_2, zuP_3, zuC_1, zuC_2, reduceIte, Nat.reduceEqDiff, false_and, and_false, true_and, and_true, and_self, or_true, true_or, or_false, false_or]; omega)) (by repeat (first | exact zsn_rf | assumption | refine zsn_C (by decide) ?_ | refine zsn_I (by decide) ?_ | refine zsn_J ?_ | refine zsn_P ?_ | refine zsn_m (by assumption) (by decide) ?_ | refine zsn_c (by assumption) (by decide) ?_)) (by with_reducible repeat (first | exact RF_rf | assumption | apply RF_I | apply RF_J | apply RF_C | apply RF_P | refine RF_c (by assumption) ?_ | refine RF_m (by assumption) ?_)) (by first | omega | (simp only [zuI_1, zuI_2, zuJ_1, zuJ_2, zuJ_3, zuP_1, zuP_2, zuP_3, zuC_1, zuC_2, reduceIte, Nat.reduceEqDiff, false_and, and_false, true_and, and_true, and_self, or_true, true_or, or_false, false_or]; omega))) (zwk_s rfl (zwk_s rfl (zwk_s rfl (zwk_s rfl (zwk_s rfl (zwk_s rfl zwk_0))))))
  exact zs_wk (L14 _ _ _ (by first | omega | (simp only [zuI_1, zuI_2, zuJ_1, zuJ_2, zuJ_3, zuP_1, zuP_2, zuP_3, zuC_1, zuC_2, reduceIte, Nat.reduceEqDiff, false_and, and_false, true_and, and_true, and_self, or_true, true_or, or_false, false_or]; omega)) (by repeat (first | exact zsn_rf | assumption | refine zsn_C (by decide) ?_ | refine zsn_I (by decide) ?_ | refine zsn_J ?_ | refine zsn_P ?_ | refine zsn_m (by assumption) (by decide) ?_ | refine zsn_c (by assumption) (by decide) ?_)) (by with_reducible repeat (first | exact RF_rf | assumption | apply RF_I | apply RF_J | apply RF_C | apply RF_P | refine RF_c (by assumption) ?_ | refine RF_m (by assumption) ?_)) (Nat.lt_succ_self _)) (zwk_s rfl (zwk_s rfl (zwk_s rfl (zwk_s rfl (zwk_s rfl (zwk_s rfl zwk_0))))))

set_option maxHeartbeats 4000000 in
set_option maxRecDepth 100000 in
theorem c_X8_runR {l : Launch} {Γ : zΓ} {G : zH} {w : Nat} {a b : Int} (hX : zXs Γ)  : zMet l Γ yX8_run cX8_run 3 (some .int) 6 [zr 9 w, zi a, zi b] G (zpi (fun x G' => zsn [510, 2026, 2027, 2028, 2029, 2030, 2031, 2032, 2033, 2034, 2035, 2048, 2049, 2050, 2051, 2052, 2053, 809, 810, 811, 812, 813] G G' ∧ RF G G' ∧ True)) := by
  refine zMet_of RX8 hX (by decide) rfl (Nat.le_of_ble_eq_true rfl) ?_
  intro p e s m args below meth c C hr hlk
  show Z p l e (zrm 6) s m args below meth c Γ 3 0 0 (MQ below (zQc Γ (zpi (fun x G' => zsn [510, 2026, 2027, 2028, 2029, 2030, 2031, 2032, 2033, 2034, 2035, 2048, 2049, 2050, 2051, 2052, 2053, 809, 810, 811, 812, 813] G G' ∧ RF G G' ∧ True))) args s 0 0 (zA Γ)) 0 [some (zr 9 w), some (zi a), some (zi b)] [] G
  refine zs_loc 1 rfl (fun ha1 hb1 => ?_)
  refine zs_loc 2 rfl (fun ha2 hb2 => ?_)
  refine zs_aload_n (pc := 0) C dX8_run_0 rfl ?_
  refine zs_iload_n (pc := 1) C dX8_run_1 rfl ?_
  refine zVip1 (pc := 2) C dX8_run_2 v_X8_236 (c_X8_areDays hX ) (by decide) (by decide) ⟨Nat.zero_le _, Nat.zero_le _⟩ (Nat.le_of_ble_eq_true rfl) (fun x2 l2 u2 hp2 => ?_)
  have hq2 := hp2
  refine zs_if_eq (tgt := 26) (pc := 5) C dX8_run_5 (by decide) (fun h5 => ?_) (fun h5 => ?_)
  · skip
    refine zs_iconst (pc := 26) C dX8_run_26 (by decide) ?_
    exact zs_iret (pc := 27) C hr hlk dX8_run_27 ⟨by repeat (first | exact zsn_rf | assumption | refine zsn_C (by decide) ?_ | refine zsn_I (by decide) ?_ | refine zsn_J ?_ | refine zsn_P ?_ | refine zsn_m (by assumption) (by decide) ?_ | refine zsn_c (by assumption) (by decide) ?_), (by with_reducible repeat (first | exact RF_rf | assumption | apply RF_I | apply RF_J | apply RF_C | apply RF_P | refine RF_c (by assumption) ?_ | refine RF_m (by assumption) ?_)), trivial⟩
  · skip
    refine zs_iload_n (pc := 8) C dX8_run_8 rfl ?_
    refine zSip1 (pc := 9) C dX8_run_9 s_X8_215 (c_X8_isFine hX ) (by decide) ⟨Nat.zero_le _, Nat.zero_le _⟩ (Nat.le_of_ble_eq_true rfl) (fun x9 l9 u9 hp9 => ?_)
    have hq9 := hp9
    refine zs_if_eq (tgt := 26) (pc := 12) C dX8_run_12 (by decide) (fun h12 => ?_) (fun h12 => ?_)
    · skip
      refine zs_iconst (pc := 26) C dX8_run_26 (by decide) ?_
      exact zs_iret (pc := 27) C hr hlk dX8_run_27 ⟨by repeat (first | exact zsn_rf | assumption | refine zsn_C (by decide) ?_ | refine zsn_I (by decide) ?_ | refine zsn_J ?_ | refine zsn_P ?_ | refine zsn_m (by assumption) (by decide) ?_ | refine zsn_c (by assumption) (by decide) ?_), (by with_reducible repeat (first | exact RF_rf | assumption | apply RF_I | apply RF_J | apply RF_C | apply RF_P | refine RF_c (by assumption) ?_ | refine RF_m (by assumption) ?_)), trivial⟩
    · skip
      refine zs_aload_n (pc := 15) C dX8_run_15 rfl ?_
      refine zs_iconst (pc := 16) C dX8_run_16 (by decide) ?_
      refine zs_iconst (pc := 17) C dX8_run_17 (by decide) ?_
      refine zs_iload_n (pc := 18) C dX8_run_18 rfl ?_
      refine zs_iload_n (pc := 19) C dX8_run_19 rfl ?_
      refine zVi4 (pc := 20) C dX8_run_20 v_X8_281 (c_X8_flourOfRunR hX ) (by decide) (by decide) ⟨Nat.zero_le _, Nat.zero_le _⟩ (Nat.le_of_ble_eq_true rfl) (fun x20 G20 l20 u20 hp20 => ?_)
      obtain ⟨hz20, lo20, hq20⟩ := hp20
      refine zs_goto (tgt := 27) (pc := 23) C dX8_run_23 (by decide) ?_
      exact zs_iret (pc := 27) C hr hlk dX8_run_27 ⟨by repeat (first | exact zsn_rf | assumption | refine zsn_C (by decide) ?_ | refine zsn_I (by decide) ?_ | refine zsn_J ?_ | refine zsn_P ?_ | refine zsn_m (by assumption) (by decide) ?_ | refine zsn_c (by assumption) (by decide) ?_), (by with_reducible repeat (first | exact RF_rf | assumption | apply RF_I | apply RF_J | apply RF_C | apply RF_P | refine RF_c (by assumption) ?_ | refine RF_m (by assumption) ?_)), trivial⟩

set_option maxHeartbeats 4000000 in
set_option maxRecDepth 100000 in
theorem c_X8_triedR {l : Launch} {Γ : zΓ} {G : zH} {w : Nat} {k i0 a b : Int} (hX : zXs Γ)  : zMet l Γ yX8_tried cX8_tried 5 (some .int) 6 [zr 9 w, zi k, zi i0, zi a, zi b] G (zpi (fun x G' => zsn [510, 2026, 2027, 2028, 2029, 2030, 2031, 2032, 2033, 2034, 2035, 2048, 2049, 2050, 2051, 2052, 2053, 809, 810, 811, 812, 813] G G' ∧ RF G G' ∧ True)) := by
  refine zMet_of RX8 hX (by decide) rfl (Nat.le_of_ble_eq_true rfl) ?_
  intro p e s m args below meth c C hr hlk
  show Z p l e (zrm 6) s m args below meth c Γ 5 0 0 (MQ below (zQc Γ (zpi (fun x G' => zsn [510, 2026, 2027, 2028, 2029, 2030, 2031, 2032, 2033, 2034, 2035, 2048, 2049, 2050, 2051, 2052, 2053, 809, 810, 811, 812, 813] G G' ∧ RF G G' ∧ True))) args s 0 0 (zA Γ)) 0 [some (zr 9 w), some (zi k), some (zi i0), some (zi a), some (zi b)] [] G
  refine zs_loc 1 rfl (fun ha1 hb1 => ?_)
  refine zs_loc 2 rfl (fun ha2 hb2 => ?_)
  refine zs_loc 3 rfl (fun ha3 hb3 => ?_)
  refine zs_loc 4 rfl (fun ha4 hb4 => ?_)
  refine zs_aload_n (pc := 0) C dX8_tried_0 rfl ?_
  refine zs_iload_n (pc := 1) C dX8_tried_1 rfl ?_
  refine zVip1 (pc := 2) C dX8_tried_2 v_X8_236 (c_X8_areDays hX ) (by decide) (by decide) ⟨Nat.zero_le _, Nat.zero_le _⟩ (Nat.le_of_ble_eq_true rfl) (fun x2 l2 u2 hp2 => ?_)
  have hq2 := hp2
  refine zs_if_eq (tgt := 25) (pc := 5) C dX8_tried_5 (by decide) (fun h5 => ?_) (fun h5 => ?_)
  · skip
    refine zs_iconst (pc := 25) C dX8_tried_25 (by decide) ?_
    exact zs_iret (pc := 26) C hr hlk dX8_tried_26 ⟨by repeat (first | exact zsn_rf | assumption | refine zsn_C (by decide) ?_ | refine zsn_I (by decide) ?_ | refine zsn_J ?_ | refine zsn_P ?_ | refine zsn_m (by assumption) (by decide) ?_ | refine zsn_c (by assumption) (by decide) ?_), (by with_reducible repeat (first | exact RF_rf | assumption | apply RF_I | apply RF_J | apply RF_C | apply RF_P | refine RF_c (by assumption) ?_ | refine RF_m (by assumption) ?_)), trivial⟩
  · skip
    refine zs_iload (pc := 8) C dX8_tried_8 rfl ?_
    refine zSip1 (pc := 10) C dX8_tried_10 s_X8_215 (c_X8_isFine hX ) (by decide) ⟨Nat.zero_le _, Nat.zero_le _⟩ (Nat.le_of_ble_eq_true rfl) (fun x10 l10 u10 hp10 => ?_)
    have hq10 := hp10
    refine zs_if_eq (tgt := 25) (pc := 13) C dX8_tried_13 (by decide) (fun h13 => ?_) (fun h13 => ?_)
    · skip
      refine zs_iconst (pc := 25) C dX8_tried_25 (by decide) ?_
      exact zs_iret (pc := 26) C hr hlk dX8_tried_26 ⟨by repeat (first | exact zsn_rf | assumption | refine zsn_C (by decide) ?_ | refine zsn_I (by decide) ?_ | refine zsn_J ?_ | refine zsn_P ?_ | refine zsn_m (by assumption) (by decide) ?_ | refine zsn_c (by assumption) (by decide) ?_), (by with_reducible repeat (first | exact RF_rf | assumption | apply RF_I | apply RF_J | apply RF_C | apply RF_P | refine RF_c (by assumption) ?_ | refine RF_m (by assumption) ?_)), trivial⟩
    · skip
      refine zs_aload_n (pc := 16) C dX8_tried_16 rfl ?_
      refine zs_iload_n (pc := 17) C dX8_tried_17 rfl ?_
      refine zs_iload_n (pc := 18) C dX8_tried_18 rfl ?_
      refine zVip2 (pc := 19) C dX8_tried_19 v_X8_285 (c_X8_isTrial hX ) (by decide) (by decide) ⟨Nat.zero_le _, Nat.zero_le _⟩ (Nat.le_of_ble_eq_true rfl) (fun x19 l19 u19 hp19 => ?_)
      have hq19 := hp19
      refine zs_if_ne (tgt := 27) (pc := 22) C dX8_tried_22 (by decide) (fun h22 => ?_) (fun h22 => ?_)
      · skip
        refine zs_aload_n (pc := 27) C dX8_tried_27 rfl ?_
        refine zs_iload_n (pc := 28) C dX8_tried_28 rfl ?_
        refine zs_iload_n (pc := 29) C dX8_tried_29 rfl ?_
        refine zs_iload_n (pc := 30) C dX8_tried_30 rfl ?_
        refine zs_iload (pc := 31) C dX8_tried_31 rfl ?_
        refine zVi4 (pc := 33) C dX8_tried_33 v_X8_281 (c_X8_flourOfRunR hX ) (by decide) (by decide) ⟨Nat.zero_le _, Nat.zero_le _⟩ (Nat.le_of_ble_eq_true rfl) (fun x33 G33 l33 u33 hp33 => ?_)
        obtain ⟨hz33, lo33, hq33⟩ := hp33
        exact zs_iret (pc := 36) C hr hlk dX8_tried_36 ⟨by repeat (first | exact zsn_rf | assumption | refine zsn_C (by decide) ?_ | refine zsn_I (by decide) ?_ | refine zsn_J ?_ | refine zsn_P ?_ | refine zsn_m (by assumption) (by decide) ?_ | refine zsn_c (by assumption) (by decide) ?_), (by with_reducible repeat (first | exact RF_rf | assumption | apply RF_I | apply RF_J | apply RF_C | apply RF_P | refine RF_c (by assumption) ?_ | refine RF_m (by assumption) ?_)), trivial⟩
      · skip
        refine zs_iconst (pc := 25) C dX8_tried_25 (by decide) ?_
        exact zs_iret (pc := 26) C hr hlk dX8_tried_26 ⟨by repeat (first | exact zsn_rf | assumption | refine zsn_C (by decide) ?_ | refine zsn_I (by decide) ?_ | refine zsn_J ?_ | refine zsn_P ?_ | refine zsn_m (by assumption) (by decide) ?_ | refine zsn_c (by assumption) (by decide) ?_), (by with_reducible repeat (first | exact RF_rf | assumption | apply RF_I | apply RF_J | apply RF_C | apply RF_P | refine RF_c (by assumption) ?_ | refine RF_m (by assumption) ?_)), trivial⟩

set_option maxHeartbeats 4000000 in
set_option maxRecDepth 100000 in
theorem c_X8_pairsR {l : Launch} {Γ : zΓ} {G : zH} {w : Nat}  (hX : zXs Γ)  : zMet l Γ yX8_pairs cX8_pairs 1 (some .long) 10 [zr 9 w] G (zpj (fun x G' => zsn [103, 105, 2011, 2012] G G' ∧ RF G G' ∧ True)) := by
  refine zMet_of RX8 hX (by decide) rfl (Nat.le_of_ble_eq_true rfl) ?_
  intro p e s m args below meth c C hr hlk
  show Z p l e (zrm 10) s m args below meth c Γ 1 0 0 (MQ below (zQc Γ (zpj (fun x G' => zsn [103, 105, 2011, 2012] G G' ∧ RF G G' ∧ True))) args s 0 0 (zA Γ)) 0 [some (zr 9 w)] [] G
  refine zs_aload_n (pc := 0) C dX8_pairs_0 rfl ?_
  refine zs_getd (r := 903) (pc := 1) C dX8_pairs_1 w_X8_25 f_9_3 (by decide) rfl (fun v1 e1 t1 => ?_)
  refine zs_getf (pc := 4) C dX8_pairs_4 w_X8_262 f_6_2 (by decide) ?_
  refine zs_iconst (pc := 7) C dX8_pairs_7 (by decide) ?_
  refine zs_iald (r := 2037) (pc := 8) C dX8_pairs_8 a_37 (by decide) (by omega) rfl rfl (fun v8 e8 l8 u8 => ?_)
  refine zs_if_ne (tgt := 16) (pc := 9) C dX8_pairs_9 (by decide) (fun h9 => ?_) (fun h9 => ?_)
  · skip
    refine zs_aload_n (pc := 16) C dX8_pairs_16 rfl ?_
    refine zs_getf (pc := 17) C dX8_pairs_17 w_X8_56 f_9_8 (by decide) ?_
    refine zs_aload_n (pc := 20) C dX8_pairs_20 rfl ?_
    refine zs_getf (pc := 21) C dX8_pairs_21 w_X8_34 f_9_4 (by decide) ?_
    refine zVv1 (pc := 24) C dX8_pairs_24 v_X8_306 (c_X0_bringTogether hX ) (by decide) (by decide) ⟨Nat.zero_le _, Nat.zero_le _⟩ (Nat.le_of_ble_eq_true rfl) (fun G24 hp24 => ?_)
    obtain ⟨hz24, hq24⟩ := hp24
    refine zs_aload_n (pc := 27) C dX8_pairs_27 rfl ?_
    refine zs_getf (pc := 28) C dX8_pairs_28 w_X8_56 f_9_8 (by decide) ?_
    refine zs_getj (r := 104) (pc := 31) C dX8_pairs_31 w_X8_309 f_1_4 rfl (fun v31 e31 l31 u31 => ?_)
    exact zs_lret (pc := 34) C hr hlk dX8_pairs_34 ⟨by repeat (first | exact zsn_rf | assumption | refine zsn_C (by decide) ?_ | refine zsn_I (by decide) ?_ | refine zsn_J ?_ | refine zsn_P ?_ | refine zsn_m (by assumption) (by decide) ?_ | refine zsn_c (by assumption) (by decide) ?_), (by with_reducible repeat (first | exact RF_rf | assumption | apply RF_I | apply RF_J | apply RF_C | apply RF_P | refine RF_c (by assumption) ?_ | refine RF_m (by assumption) ?_)), trivial⟩
  · skip
    refine zs_ldc2 (n := -9223372036854775808) (pc := 12) C dX8_pairs_12 q_X8_152 (by decide) (by decide) ?_
    exact zs_lret (pc := 15) C hr hlk dX8_pairs_15 ⟨by repeat (first | exact zsn_rf | assumption | refine zsn_C (by decide) ?_ | refine zsn_I (by decide) ?_ | refine zsn_J ?_ | refine zsn_P ?_ | refine zsn_m (by assumption) (by decide) ?_ | refine zsn_c (by assumption) (by decide) ?_), (by with_reducible repeat (first | exact RF_rf | assumption | apply RF_I | apply RF_J | apply RF_C | apply RF_P | refine RF_c (by assumption) ?_ | refine RF_m (by assumption) ?_)), trivial⟩

set_option maxHeartbeats 4000000 in
set_option maxRecDepth 100000 in
theorem c_X8_pairedR {l : Launch} {Γ : zΓ} {G : zH} {w : Nat} {p0 : Int} (hX : zXs Γ)  : zMet l Γ yX8_paired cX8_paired 3 (some .int) 10 [zr 9 w, zi p0] G (zpi (fun x G' => zsn [103, 105, 2011, 2012] G G' ∧ RF G G' ∧ True)) := by
  refine zMet_of RX8 hX (by decide) rfl (Nat.le_of_ble_eq_true rfl) ?_
  intro p e s m args below meth c C hr hlk
  show Z p l e (zrm 10) s m args below meth c Γ 3 0 0 (MQ below (zQc Γ (zpi (fun x G' => zsn [103, 105, 2011, 2012] G G' ∧ RF G G' ∧ True))) args s 0 0 (zA Γ)) 0 [some (zr 9 w), some (zi p0), none] [] G
  refine zs_loc 1 rfl (fun ha1 hb1 => ?_)
  refine zs_aload_n (pc := 0) C dX8_paired_0 rfl ?_
  refine zs_getd (r := 903) (pc := 1) C dX8_paired_1 w_X8_25 f_9_3 (by decide) rfl (fun v1 e1 t1 => ?_)
  refine zs_iconst (pc := 4) C dX8_paired_4 (by decide) ?_
  refine zs_iload_n (pc := 5) C dX8_paired_5 rfl ?_
  refine zVip2 (pc := 6) C dX8_paired_6 v_X8_104 (c_X5_has hX (by omega)) (by decide) (by decide) ⟨Nat.zero_le _, Nat.zero_le _⟩ (Nat.le_of_ble_eq_true rfl) (fun x6 l6 u6 hp6 => ?_)
  have hq6 := hp6
  refine zs_if_ne (tgt := 14) (pc := 9) C dX8_paired_9 (by decide) (fun h9 => ?_) (fun h9 => ?_)
  · skip
    refine zs_aload_n (pc := 14) C dX8_paired_14 rfl ?_
    refine zs_getf (pc := 15) C dX8_paired_15 w_X8_56 f_9_8 (by decide) ?_
    refine zs_aload_n (pc := 18) C dX8_paired_18 rfl ?_
    refine zs_getf (pc := 19) C dX8_paired_19 w_X8_34 f_9_4 (by decide) ?_
    refine zVv1 (pc := 22) C dX8_paired_22 v_X8_306 (c_X0_bringTogether hX ) (by decide) (by decide) ⟨Nat.zero_le _, Nat.zero_le _⟩ (Nat.le_of_ble_eq_true rfl) (fun G22 hp22 => ?_)
    obtain ⟨hz22, hq22⟩ := hp22
    refine zs_aload_n (pc := 25) C dX8_paired_25 rfl ?_
    refine zs_getf (pc := 26) C dX8_paired_26 w_X8_56 f_9_8 (by decide) ?_
    refine zs_getf (pc := 29) C dX8_paired_29 w_X8_313 f_1_1 (by decide) ?_
    refine zs_iload_n (pc := 32) C dX8_paired_32 rfl ?_
    refine zs_iald (r := 2012) (pc := 33) C dX8_paired_33 a_12 (by decide) (by omega) rfl (r_2012 _) (fun v33 e33 l33 u33 => ?_)
    refine zs_istore_n (pc := 34) C dX8_paired_34 (by decide) ?_
    dsimp only [zset, zclr, znone]
    refine zs_iload_n (pc := 35) C dX8_paired_35 rfl ?_
    refine zs_iconst (pc := 36) C dX8_paired_36 (by decide) ?_
    refine zs_icmp_ne (tgt := 45) (pc := 37) C dX8_paired_37 (by decide) (fun h37 => ?_) (fun h37 => ?_)
    · skip
      refine zs_iload_n (pc := 45) C dX8_paired_45 rfl ?_
      exact zs_iret (pc := 46) C hr hlk dX8_paired_46 ⟨by repeat (first | exact zsn_rf | assumption | refine zsn_C (by decide) ?_ | refine zsn_I (by decide) ?_ | refine zsn_J ?_ | refine zsn_P ?_ | refine zsn_m (by assumption) (by decide) ?_ | refine zsn_c (by assumption) (by decide) ?_), (by with_reducible repeat (first | exact RF_rf | assumption | apply RF_I | apply RF_J | apply RF_C | apply RF_P | refine RF_c (by assumption) ?_ | refine RF_m (by assumption) ?_)), trivial⟩
    · skip
      refine zs_bipush (pc := 40) C dX8_paired_40 (by decide) (by decide) ?_
      refine zs_goto (tgt := 46) (pc := 42) C dX8_paired_42 (by decide) ?_
      exact zs_iret (pc := 46) C hr hlk dX8_paired_46 ⟨by repeat (first | exact zsn_rf | assumption | refine zsn_C (by decide) ?_ | refine zsn_I (by decide) ?_ | refine zsn_J ?_ | refine zsn_P ?_ | refine zsn_m (by assumption) (by decide) ?_ | refine zsn_c (by assumption) (by decide) ?_), (by with_reducible repeat (first | exact RF_rf | assumption | apply RF_I | apply RF_J | apply RF_C | apply RF_P | refine RF_c (by assumption) ?_ | refine RF_m (by assumption) ?_)), trivial⟩
  · skip
    refine zs_iconst (pc := 12) C dX8_paired_12 (by decide) ?_
    exact zs_iret (pc := 13) C hr hlk dX8_paired_13 ⟨by repeat (first | exact zsn_rf | assumption | refine zsn_C (by decide) ?_ | refine zsn_I (by decide) ?_ | refine zsn_J ?_ | refine zsn_P ?_ | refine zsn_m (by assumption) (by decide) ?_ | refine zsn_c (by assumption) (by decide) ?_), (by with_reducible repeat (first | exact RF_rf | assumption | apply RF_I | apply RF_J | apply RF_C | apply RF_P | refine RF_c (by assumption) ?_ | refine RF_m (by assumption) ?_)), trivial⟩

set_option maxHeartbeats 4000000 in
set_option maxRecDepth 100000 in
theorem c_X8_liesR {l : Launch} {Γ : zΓ} {G : zH} {w : Nat} {a p0 k : Int} (hX : zXs Γ)  : zMet l Γ yX8_lies cX8_lies 7 (some .int) 3 [zr 9 w, zi a, zi p0, zi k] G (zpi (fun x G' => zsn [510, 2026, 2027, 2028, 2029, 2030, 2031, 2032, 2033, 2034, 2035, 2048, 2049, 2050, 2051, 2052, 2053, 809, 810, 811, 812, 813] G G' ∧ RF G G' ∧ True)) := by
  refine zMet_of RX8 hX (by decide) rfl (Nat.le_of_ble_eq_true rfl) ?_
  intro p e s m args below meth c C hr hlk
  show Z p l e (zrm 3) s m args below meth c Γ 7 0 0 (MQ below (zQc Γ (zpi (fun x G' => zsn [510, 2026, 2027, 2028, 2029, 2030, 2031, 2032, 2033, 2034, 2035, 2048, 2049, 2050, 2051, 2052, 2053, 809, 810, 811, 812, 813] G G' ∧ RF G G' ∧ True))) args s 0 0 (zA Γ)) 0 [some (zr 9 w), some (zi a), some (zi p0), some (zi k), none, none, none] [] G
  refine zs_loc 1 rfl (fun ha1 hb1 => ?_)
  refine zs_loc 2 rfl (fun ha2 hb2 => ?_)
  refine zs_loc 3 rfl (fun ha3 hb3 => ?_)
  refine zs_iload_n (pc := 0) C dX8_lies_0 rfl ?_
  refine zs_if_lt (tgt := 27) (pc := 1) C dX8_lies_1 (by decide) (fun h1 => ?_) (fun h1 => ?_)
  · skip
    refine zs_iconst (pc := 27) C dX8_lies_27 (by decide) ?_
    exact zs_iret (pc := 28) C hr hlk dX8_lies_28 ⟨by repeat (first | exact zsn_rf | assumption | refine zsn_C (by decide) ?_ | refine zsn_I (by decide) ?_ | refine zsn_J ?_ | refine zsn_P ?_ | refine zsn_m (by assumption) (by decide) ?_ | refine zsn_c (by assumption) (by decide) ?_), (by with_reducible repeat (first | exact RF_rf | assumption | apply RF_I | apply RF_J | apply RF_C | apply RF_P | refine RF_c (by assumption) ?_ | refine RF_m (by assumption) ?_)), trivial⟩
  · skip
    refine zs_aload_n (pc := 4) C dX8_lies_4 rfl ?_
    refine zs_getd (r := 903) (pc := 5) C dX8_lies_5 w_X8_25 f_9_3 (by decide) rfl (fun v5 e5 t5 => ?_)
    refine zs_iconst (pc := 8) C dX8_lies_8 (by decide) ?_
    refine zs_iload_n (pc := 9) C dX8_lies_9 rfl ?_
    refine zVip2 (pc := 10) C dX8_lies_10 v_X8_104 (c_X5_has hX (by omega)) (by decide) (by decide) ⟨Nat.zero_le _, Nat.zero_le _⟩ (Nat.le_of_ble_eq_true rfl) (fun x10 l10 u10 hp10 => ?_)
    have hq10 := hp10
    refine zs_if_eq (tgt := 27) (pc := 13) C dX8_lies_13 (by decide) (fun h13 => ?_) (fun h13 => ?_)
    · skip
      refine zs_iconst (pc := 27) C dX8_lies_27 (by decide) ?_
      exact zs_iret (pc := 28) C hr hlk dX8_lies_28 ⟨by repeat (first | exact zsn_rf | assumption | refine zsn_C (by decide) ?_ | refine zsn_I (by decide) ?_ | refine zsn_J ?_ | refine zsn_P ?_ | refine zsn_m (by assumption) (by decide) ?_ | refine zsn_c (by assumption) (by decide) ?_), (by with_reducible repeat (first | exact RF_rf | assumption | apply RF_I | apply RF_J | apply RF_C | apply RF_P | refine RF_c (by assumption) ?_ | refine RF_m (by assumption) ?_)), trivial⟩
    · skip
      refine zs_iload_n (pc := 16) C dX8_lies_16 rfl ?_
      refine zs_iconst (pc := 17) C dX8_lies_17 (by decide) ?_
      refine zs_icmp_lt (tgt := 27) (pc := 18) C dX8_lies_18 (by decide) (fun h18 => ?_) (fun h18 => ?_)
      · skip
        refine zs_iconst (pc := 27) C dX8_lies_27 (by decide) ?_
        exact zs_iret (pc := 28) C hr hlk dX8_lies_28 ⟨by repeat (first | exact zsn_rf | assumption | refine zsn_C (by decide) ?_ | refine zsn_I (by decide) ?_ | refine zsn_J ?_ | refine zsn_P ?_ | refine zsn_m (by assumption) (by decide) ?_ | refine zsn_c (by assumption) (by decide) ?_), (by with_reducible repeat (first | exact RF_rf | assumption | apply RF_I | apply RF_J | apply RF_C | apply RF_P | refine RF_c (by assumption) ?_ | refine RF_m (by assumption) ?_)), trivial⟩
      · skip
        refine zs_iload_n (pc := 21) C dX8_lies_21 rfl ?_
        refine zs_bipush (pc := 22) C dX8_lies_22 (by decide) (by decide) ?_
        refine zs_icmp_le (tgt := 29) (pc := 24) C dX8_lies_24 (by decide) (fun h24 => ?_) (fun h24 => ?_)
        · skip
          refine zs_aload_n (pc := 29) C dX8_lies_29 rfl ?_
          refine zs_getf (pc := 30) C dX8_lies_30 w_X8_41 f_9_6 (by decide) ?_
          refine zs_aload_n (pc := 33) C dX8_lies_33 rfl ?_
          refine zs_getf (pc := 34) C dX8_lies_34 w_X8_34 f_9_4 (by decide) ?_
          refine zVv1 (pc := 37) C dX8_lies_37 v_X8_288 (c_X7_copyFromR hX ) (by decide) (by decide) ⟨Nat.zero_le _, Nat.zero_le _⟩ (Nat.le_of_ble_eq_true rfl) (fun G37 hp37 => ?_)
          obtain ⟨hz37, lo37, hq37⟩ := hp37
          refine zs_aload_n (pc := 40) C dX8_lies_40 rfl ?_
          refine zs_getf (pc := 41) C dX8_lies_41 w_X8_41 f_9_6 (by decide) ?_
          refine zs_iload_n (pc := 44) C dX8_lies_44 rfl ?_
          refine zs_puti (r := 812) (pc := 45) C dX8_lies_45 w_X8_316 f_8_12 rfl (r_812 0) (by omega) ?_
          refine zs_iconst (pc := 48) C dX8_lies_48 (by decide) ?_
          refine zs_istore (pc := 49) C dX8_lies_49 (by decide) ?_
          dsimp only [zset, zclr, znone]
          refine zs_iconst (pc := 51) C dX8_lies_51 (by decide) ?_
          refine zs_istore (pc := 52) C dX8_lies_52 (by decide) ?_
          dsimp only [zset, zclr, znone]
          have L54 : ∀ (nn : Nat) (x4 x5 : Int) (G1 : zH), (0 ≤ x5 ∧ x5 ≤ 40) → (zsn [510, 2026, 2027, 2028, 2029, 2030, 2031, 2032, 2033, 2034, 2035, 2048, 2049, 2050, 2051, 2052, 2053, 809, 810, 811, 812, 813] G G1) → (RF G G1) → (40 - x5).toNat < nn → Z p l e (zrm 3) s m args below meth c Γ 7 0 0 (MQ below (zQc Γ (zpi (fun x G' => zsn [510, 2026, 2027, 2028, 2029, 2030, 2031, 2032, 2033, 2034, 2035, 2048, 2049, 2050, 2051, 2052, 2053, 809, 810, 811, 812, 813] G G' ∧ RF G G' ∧ True))) args s 0 0 (zA Γ)) 54 [some (zr 9 w), some (zi a), some (zi p0), some (zi k), some (zi x4), some (zi x5), none] [] G1 := by
            intro nn
            induction nn with
            | zero => intro x4 x5 G1 h54_0 h54_1 h54_2 hm; exact absurd hm (Nat.not_lt_zero _)
            | succ nn ih54 =>
              intro x4 x5 G1 h54_0 h54_1 h54_2 hm54
              refine zs_iload (pc := 54) C dX8_lies_54 rfl ?_
              refine zs_iload_n (pc := 56) C dX8_lies_56 rfl ?_
              refine zs_icmp_ge (tgt := 105) (pc := 57) C dX8_lies_57 (by decide) (fun h57 => ?_) (fun h57 => ?_)
              · skip
                refine zs_iload (pc := 105) C dX8_lies_105 rfl ?_
                exact zs_iret (pc := 107) C hr hlk dX8_lies_107 ⟨by repeat (first | exact zsn_rf | assumption | refine zsn_C (by decide) ?_ | refine zsn_I (by decide) ?_ | refine zsn_J ?_ | refine zsn_P ?_ | refine zsn_m (by assumption) (by decide) ?_ | refine zsn_c (by assumption) (by decide) ?_), (by with_reducible repeat (first | exact RF_rf | assumption | apply RF_I | apply RF_J | apply RF_C | apply RF_P | refine RF_c (by assumption) ?_ | refine RF_m (by assumption) ?_)), trivial⟩
              · skip
                refine zs_aload_n (pc := 60) C dX8_lies_60 rfl ?_
                refine zs_getf (pc := 61) C dX8_lies_61 w_X8_41 f_9_6 (by decide) ?_
                refine zs_iload_n (pc := 64) C dX8_lies_64 rfl ?_
                refine zVi1 (pc := 65) C dX8_lies_65 v_X8_181 (c_X7_sinByChance hX (by omega)) (by decide) (by decide) ⟨Nat.zero_le _, Nat.zero_le _⟩ (Nat.le_of_ble_eq_true rfl) (fun x65 G65 l65 u65 hp65 => ?_)
                obtain ⟨hz65, hq65⟩ := hp65
                refine zs_istore (pc := 68) C dX8_lies_68 (by decide) ?_
                dsimp only [zset, zclr, znone]
                refine zs_aload_n (pc := 70) C dX8_lies_70 rfl ?_
                refine zs_getd (r := 903) (pc := 71) C dX8_lies_71 w_X8_25 f_9_3 (by decide) rfl (fun v71 e71 t71 => ?_)
                try simp only [hz65.2, zuI_1, zuI_2, zuJ_1, zuJ_2, zuJ_3, zuP_1, zuP_2, zuP_3, zuC_1, zuC_2, reduceIte, Nat.reduceEqDiff, false_and, and_false, true_and, and_true, and_self, or_true, true_or, or_false, false_or] at e71
                refine zs_iconst (pc := 74) C dX8_lies_74 (by decide) ?_
                refine zs_iload (pc := 75) C dX8_lies_75 rfl ?_
                refine zVip2 (pc := 77) C dX8_lies_77 v_X8_104 (c_X5_has hX (by omega)) (by decide) (by decide) ⟨Nat.zero_le _, Nat.zero_le _⟩ (Nat.le_of_ble_eq_true rfl) (fun x77 l77 u77 hp77 => ?_)
                have hq77 := hp77
                refine zs_if_eq (tgt := 99) (pc := 80) C dX8_lies_80 (by decide) (fun h80 => ?_) (fun h80 => ?_)
                · skip
                  first | refine zs_iinc (pc := 99) C dX8_lies_99 rfl (by decide) (by omega) ?_ | refine zs_iincF (pc := 99) C dX8_lies_99 rfl (by decide) (fun z99 hz991 hz992 => ?_)
                  dsimp only [zset, zclr, znone]
                  refine zs_goto (tgt := 54) (pc := 102) C dX8_lies_102 (by decide) ?_
                  exact zs_wk (ih54 _ _ _ (by first | omega | (simp only [zuI_1, zuI_2, zuJ_1, zuJ_2, zuJ_3, zuP_1, zuP_2, zuP_3, zuC_1, zuC_2, reduceIte, Nat.reduceEqDiff, false_and, and_false, true_and, and_true, and_self, or_true, true_or, or_false, false_or]; omega)) (by repeat (first | exact zsn_rf | assumption | refine zsn_C (by decide) ?_ | refine zsn_I (by decide) ?_ | refine zsn_J ?_ | refine zsn_P ?_ | refine zsn_m (by assumption) (by decide) ?_ | refine zsn_c (by assumption) (by decide) ?_)) (by with_reducible repeat (first | exact RF_rf | assumption | apply RF_I | apply RF_J | apply RF_C | apply RF_P | refine RF_c (by assumption) ?_ | refine RF_m (by assumption) ?_)) (by first | omega | (simp only [zuI_1, zuI_2, zuJ_1, zuJ_2, zuJ_3, zuP_1, zuP_2, zuP_3, zuC_1, zuC_2, reduceIte, Nat.reduceEqDiff, false_and, and_false, true_and, and_true, and_self, or_true, true_or, or_false, false_or]; omega))) (zwk_s rfl (zwk_s rfl (zwk_s rfl (zwk_s rfl (zwk_s rfl (zwk_s rfl (zwk_n zwk_0)))))))
                · skip
                  refine zs_aload_n (pc := 83) C dX8_lies_83 rfl ?_
                  refine zs_getf (pc := 84) C dX8_lies_84 w_X8_41 f_9_6 (by decide) ?_
                  refine zs_iload_n (pc := 87) C dX8_lies_87 rfl ?_
                  refine zs_iload (pc := 88) C dX8_lies_88 rfl ?_
                  refine zVip2 (pc := 90) C dX8_lies_90 v_X8_142 (c_X7_leftOf hX (by omega) (by omega)) (by decide) (by decide) ⟨Nat.zero_le _, Nat.zero_le _⟩ (Nat.le_of_ble_eq_true rfl) (fun x90 l90 u90 hp90 => ?_)
                  have hq90 := hp90
                  refine zs_if_ne (tgt := 99) (pc := 93) C dX8_lies_93 (by decide) (fun h93 => ?_) (fun h93 => ?_)
                  · skip
                    first | refine zs_iinc (pc := 99) C dX8_lies_99 rfl (by decide) (by omega) ?_ | refine zs_iincF (pc := 99) C dX8_lies_99 rfl (by decide) (fun z99 hz991 hz992 => ?_)
                    dsimp only [zset, zclr, znone]
                    refine zs_goto (tgt := 54) (pc := 102) C dX8_lies_102 (by decide) ?_
                    exact zs_wk (ih54 _ _ _ (by first | omega | (simp only [zuI_1, zuI_2, zuJ_1, zuJ_2, zuJ_3, zuP_1, zuP_2, zuP_3, zuC_1, zuC_2, reduceIte, Nat.reduceEqDiff, false_and, and_false, true_and, and_true, and_self, or_true, true_or, or_false, false_or]; omega)) (by repeat (first | exact zsn_rf | assumption | refine zsn_C (by decide) ?_ | refine zsn_I (by decide) ?_ | refine zsn_J ?_ | refine zsn_P ?_ | refine zsn_m (by assumption) (by decide) ?_ | refine zsn_c (by assumption) (by decide) ?_)) (by with_reducible repeat (first | exact RF_rf | assumption | apply RF_I | apply RF_J | apply RF_C | apply RF_P | refine RF_c (by assumption) ?_ | refine RF_m (by assumption) ?_)) (by first | omega | (simp only [zuI_1, zuI_2, zuJ_1, zuJ_2, zuJ_3, zuP_1, zuP_2, zuP_3, zuC_1, zuC_2, reduceIte, Nat.reduceEqDiff, false_and, and_false, true_and, and_true, and_self, or_true, true_or, or_false, false_or]; omega))) (zwk_s rfl (zwk_s rfl (zwk_s rfl (zwk_s rfl (zwk_s rfl (zwk_s rfl (zwk_n zwk_0)))))))
                  · skip
                    first | refine zs_iinc (pc := 96) C dX8_lies_96 rfl (by decide) (by omega) ?_ | refine zs_iincF (pc := 96) C dX8_lies_96 rfl (by decide) (fun z96 hz961 hz962 => ?_)
                    dsimp only [zset, zclr, znone]
                    first | refine zs_iinc (pc := 99) C dX8_lies_99 rfl (by decide) (by omega) ?_ | refine zs_iincF (pc := 99) C dX8_lies_99 rfl (by decide) (fun z99 hz991 hz992 => ?_)
                    dsimp only [zset, zclr, znone]
                    refine zs_goto (tgt := 54) (pc := 102) C dX8_lies_102 (by decide) ?_
                    exact zs_wk (ih54 _ _ _ (by first | omega | (simp only [zuI_1, zuI_2, zuJ_1, zuJ_2, zuJ_3, zuP_1, zuP_2, zuP_3, zuC_1, zuC_2, reduceIte, Nat.reduceEqDiff, false_and, and_false, true_and, and_true, and_self, or_true, true_or, or_false, false_or]; omega)) (by repeat (first | exact zsn_rf | assumption | refine zsn_C (by decide) ?_ | refine zsn_I (by decide) ?_ | refine zsn_J ?_ | refine zsn_P ?_ | refine zsn_m (by assumption) (by decide) ?_ | refine zsn_c (by assumption) (by decide) ?_)) (by with_reducible repeat (first | exact RF_rf | assumption | apply RF_I | apply RF_J | apply RF_C | apply RF_P | refine RF_c (by assumption) ?_ | refine RF_m (by assumption) ?_)) (by first | omega | (simp only [zuI_1, zuI_2, zuJ_1, zuJ_2, zuJ_3, zuP_1, zuP_2, zuP_3, zuC_1, zuC_2, reduceIte, Nat.reduceEqDiff, false_and, and_false, true_and, and_true, and_self, or_true, true_or, or_false, false_or]; omega))) (zwk_s rfl (zwk_s rfl (zwk_s rfl (zwk_s rfl (zwk_s rfl (zwk_s rfl (zwk_n zwk_0)))))))
          exact zs_wk (L54 _ _ _ _ (by first | omega | (simp only [zuI_1, zuI_2, zuJ_1, zuJ_2, zuJ_3, zuP_1, zuP_2, zuP_3, zuC_1, zuC_2, reduceIte, Nat.reduceEqDiff, false_and, and_false, true_and, and_true, and_self, or_true, true_or, or_false, false_or]; omega)) (by repeat (first | exact zsn_rf | assumption | refine zsn_C (by decide) ?_ | refine zsn_I (by decide) ?_ | refine zsn_J ?_ | refine zsn_P ?_ | refine zsn_m (by assumption) (by decide) ?_ | refine zsn_c (by assumption) (by decide) ?_)) (by with_reducible repeat (first | exact RF_rf | assumption | apply RF_I | apply RF_J | apply RF_C | apply RF_P | refine RF_c (by assumption) ?_ | refine RF_m (by assumption) ?_)) (Nat.lt_succ_self _)) (zwk_s rfl (zwk_s rfl (zwk_s rfl (zwk_s rfl (zwk_s rfl (zwk_s rfl (zwk_n zwk_0)))))))
        · skip
          refine zs_iconst (pc := 27) C dX8_lies_27 (by decide) ?_
          exact zs_iret (pc := 28) C hr hlk dX8_lies_28 ⟨by repeat (first | exact zsn_rf | assumption | refine zsn_C (by decide) ?_ | refine zsn_I (by decide) ?_ | refine zsn_J ?_ | refine zsn_P ?_ | refine zsn_m (by assumption) (by decide) ?_ | refine zsn_c (by assumption) (by decide) ?_), (by with_reducible repeat (first | exact RF_rf | assumption | apply RF_I | apply RF_J | apply RF_C | apply RF_P | refine RF_c (by assumption) ?_ | refine RF_m (by assumption) ?_)), trivial⟩

set_option maxHeartbeats 4000000 in
set_option maxRecDepth 100000 in
theorem c_X8_knownR {l : Launch} {Γ : zΓ} {G : zH} {w : Nat} {k : Int} (hX : zXs Γ)  : zMet l Γ yX8_known cX8_known 2 (some .boolean) 0 [zr 9 w, zi k] G (zpi (fun x G' => zsn [813] G G' ∧ RF G G' ∧ (x = 0 ∨ x = 1))) := by
  refine zMet_of RX8 hX (by decide) rfl (Nat.le_of_ble_eq_true rfl) ?_
  intro p e s m args below meth c C hr hlk
  show Z p l e (zrm 0) s m args below meth c Γ 2 0 0 (MQ below (zQc Γ (zpi (fun x G' => zsn [813] G G' ∧ RF G G' ∧ (x = 0 ∨ x = 1)))) args s 0 0 (zA Γ)) 0 [some (zr 9 w), some (zi k)] [] G
  refine zs_loc 1 rfl (fun ha1 hb1 => ?_)
  refine zs_iload_n (pc := 0) C dX8_known_0 rfl ?_
  refine zs_iconst (pc := 1) C dX8_known_1 (by decide) ?_
  refine zs_icmp_lt (tgt := 19) (pc := 2) C dX8_known_2 (by decide) (fun h2 => ?_) (fun h2 => ?_)
  · skip
    refine zs_iconst (pc := 19) C dX8_known_19 (by decide) ?_
    exact zs_zret (pc := 20) C hr hlk dX8_known_20 (by omega) ⟨by repeat (first | exact zsn_rf | assumption | refine zsn_C (by decide) ?_ | refine zsn_I (by decide) ?_ | refine zsn_J ?_ | refine zsn_P ?_ | refine zsn_m (by assumption) (by decide) ?_ | refine zsn_c (by assumption) (by decide) ?_), (by with_reducible repeat (first | exact RF_rf | assumption | apply RF_I | apply RF_J | apply RF_C | apply RF_P | refine RF_c (by assumption) ?_ | refine RF_m (by assumption) ?_)), by first | omega | (simp only [zuI_1, zuI_2, zuJ_1, zuJ_2, zuJ_3, zuP_1, zuP_2, zuP_3, zuC_1, zuC_2, reduceIte, Nat.reduceEqDiff, false_and, and_false, true_and, and_true, and_self, or_true, true_or, or_false, false_or]; omega)⟩
  · skip
    refine zs_iload_n (pc := 5) C dX8_known_5 rfl ?_
    refine zs_aload_n (pc := 6) C dX8_known_6 rfl ?_
    refine zs_getf (pc := 7) C dX8_known_7 w_X8_34 f_9_4 (by decide) ?_
    refine zs_getf (pc := 10) C dX8_known_10 w_X8_172 f_8_1 (by decide) ?_
    refine zs_geti (r := 510) (pc := 13) C dX8_known_13 w_X8_176 f_5_10 rfl (r_510 0) (fun v13 e13 l13 u13 => ?_)
    refine zs_icmp_le (tgt := 21) (pc := 16) C dX8_known_16 (by decide) (fun h16 => ?_) (fun h16 => ?_)
    · skip
      refine zs_aload_n (pc := 21) C dX8_known_21 rfl ?_
      refine zs_getf (pc := 22) C dX8_known_22 w_X8_34 f_9_4 (by decide) ?_
      refine zs_iload_n (pc := 25) C dX8_known_25 rfl ?_
      refine zs_puti (r := 813) (pc := 26) C dX8_known_26 w_X8_319 f_8_13 rfl (r_813 0) (by omega) ?_
      refine zs_iconst (pc := 29) C dX8_known_29 (by decide) ?_
      exact zs_zret (pc := 30) C hr hlk dX8_known_30 (by omega) ⟨by repeat (first | exact zsn_rf | assumption | refine zsn_C (by decide) ?_ | refine zsn_I (by decide) ?_ | refine zsn_J ?_ | refine zsn_P ?_ | refine zsn_m (by assumption) (by decide) ?_ | refine zsn_c (by assumption) (by decide) ?_), (by with_reducible repeat (first | exact RF_rf | assumption | apply RF_I | apply RF_J | apply RF_C | apply RF_P | refine RF_c (by assumption) ?_ | refine RF_m (by assumption) ?_)), by first | omega | (simp only [zuI_1, zuI_2, zuJ_1, zuJ_2, zuJ_3, zuP_1, zuP_2, zuP_3, zuC_1, zuC_2, reduceIte, Nat.reduceEqDiff, false_and, and_false, true_and, and_true, and_self, or_true, true_or, or_false, false_or]; omega)⟩
    · skip
      refine zs_iconst (pc := 19) C dX8_known_19 (by decide) ?_
      exact zs_zret (pc := 20) C hr hlk dX8_known_20 (by omega) ⟨by repeat (first | exact zsn_rf | assumption | refine zsn_C (by decide) ?_ | refine zsn_I (by decide) ?_ | refine zsn_J ?_ | refine zsn_P ?_ | refine zsn_m (by assumption) (by decide) ?_ | refine zsn_c (by assumption) (by decide) ?_), (by with_reducible repeat (first | exact RF_rf | assumption | apply RF_I | apply RF_J | apply RF_C | apply RF_P | refine RF_c (by assumption) ?_ | refine RF_m (by assumption) ?_)), by first | omega | (simp only [zuI_1, zuI_2, zuJ_1, zuJ_2, zuJ_3, zuP_1, zuP_2, zuP_3, zuC_1, zuC_2, reduceIte, Nat.reduceEqDiff, false_and, and_false, true_and, and_true, and_self, or_true, true_or, or_false, false_or]; omega)⟩

set_option maxHeartbeats 4000000 in
set_option maxRecDepth 100000 in
theorem c_X8_fitsR {l : Launch} {Γ : zΓ} {G : zH} {w : Nat}  (hX : zXs Γ)  : zMet l Γ yX8_fits cX8_fits 4 (some .int) 5 [zr 9 w] G (zpi (fun x G' => zsn [] G G' ∧ RF G G' ∧ True)) := by
  refine zMet_of RX8 hX (by decide) rfl (Nat.le_of_ble_eq_true rfl) ?_
  intro p e s m args below meth c C hr hlk
  show Z p l e (zrm 5) s m args below meth c Γ 4 0 0 (MQ below (zQc Γ (zpi (fun x G' => zsn [] G G' ∧ RF G G' ∧ True))) args s 0 0 (zA Γ)) 0 [some (zr 9 w), none, none, none] [] G
  refine zs_aload_n (pc := 0) C dX8_fits_0 rfl ?_
  refine zs_getd (r := 903) (pc := 1) C dX8_fits_1 w_X8_25 f_9_3 (by decide) rfl (fun v1 e1 t1 => ?_)
  refine zs_getf (pc := 4) C dX8_fits_4 w_X8_262 f_6_2 (by decide) ?_
  refine zs_iconst (pc := 7) C dX8_fits_7 (by decide) ?_
  refine zs_iald (r := 2037) (pc := 8) C dX8_fits_8 a_37 (by decide) (by omega) rfl rfl (fun v8 e8 l8 u8 => ?_)
  have hsz := rs_2037 (3 : Int).toNat
  refine zs_istore_n (pc := 9) C dX8_fits_9 (by decide) ?_
  dsimp only [zset, zclr, znone]
  refine zs_iconst (pc := 10) C dX8_fits_10 (by decide) ?_
  refine zs_istore_n (pc := 11) C dX8_fits_11 (by decide) ?_
  dsimp only [zset, zclr, znone]
  refine zs_iconst (pc := 12) C dX8_fits_12 (by decide) ?_
  refine zs_istore_n (pc := 13) C dX8_fits_13 (by decide) ?_
  dsimp only [zset, zclr, znone]
  have L14 : ∀ (nn : Nat) (x1 x2 x3 : Int) (G1 : zH), (x1 ≤ 3) → (0 ≤ x3 ∧ x3 ≤ 3) → (zsn [] G G1) → (RF G G1) → (3 - x3).toNat < nn → Z p l e (zrm 5) s m args below meth c Γ 4 0 0 (MQ below (zQc Γ (zpi (fun x G' => zsn [] G G' ∧ RF G G' ∧ True))) args s 0 0 (zA Γ)) 14 [some (zr 9 w), some (zi x1), some (zi x2), some (zi x3)] [] G1 := by
    intro nn
    induction nn with
    | zero => intro x1 x2 x3 G1 h14_0 h14_1 h14_2 h14_3 hm; exact absurd hm (Nat.not_lt_zero _)
    | succ nn ih14 =>
      intro x1 x2 x3 G1 h14_0 h14_1 h14_2 h14_3 hm14
      refine zs_iload_n (pc := 14) C dX8_fits_14 rfl ?_
      refine zs_iload_n (pc := 15) C dX8_fits_15 rfl ?_
      refine zs_icmp_ge (tgt := 48) (pc := 16) C dX8_fits_16 (by decide) (fun h16 => ?_) (fun h16 => ?_)
      · skip
        refine zs_aload_n (pc := 48) C dX8_fits_48 rfl ?_
        refine zs_getf (pc := 49) C dX8_fits_49 w_X8_34 f_9_4 (by decide) ?_
        refine zs_iconst (pc := 52) C dX8_fits_52 (by decide) ?_
        refine zVi1 (pc := 53) C dX8_fits_53 v_X8_322 (c_X7_isFitting hX ) (by decide) (by decide) ⟨Nat.zero_le _, Nat.zero_le _⟩ (Nat.le_of_ble_eq_true rfl) (fun x53 G53 l53 u53 hp53 => ?_)
        obtain ⟨hz53, hq53⟩ := hp53
        refine zs_if_eq (tgt := 67) (pc := 56) C dX8_fits_56 (by decide) (fun h56 => ?_) (fun h56 => ?_)
        · skip
          refine zs_iload_n (pc := 67) C dX8_fits_67 rfl ?_
          exact zs_iret (pc := 68) C hr hlk dX8_fits_68 ⟨by repeat (first | exact zsn_rf | assumption | refine zsn_C (by decide) ?_ | refine zsn_I (by decide) ?_ | refine zsn_J ?_ | refine zsn_P ?_ | refine zsn_m (by assumption) (by decide) ?_ | refine zsn_c (by assumption) (by decide) ?_), (by with_reducible repeat (first | exact RF_rf | assumption | apply RF_I | apply RF_J | apply RF_C | apply RF_P | refine RF_c (by assumption) ?_ | refine RF_m (by assumption) ?_)), trivial⟩
        · skip
          refine zs_iload_n (pc := 59) C dX8_fits_59 rfl ?_
          refine zs_iconst (pc := 60) C dX8_fits_60 (by decide) ?_
          refine zs_iload_n (pc := 61) C dX8_fits_61 rfl ?_
          refine zs_ishlF (pc := 62) C dX8_fits_62 (fun z62 hz621 hz622 => ?_)
          refine zs_iorF (pc := 63) C dX8_fits_63 (fun z63 hz631 hz632 => ?_)
          refine zs_goto (tgt := 68) (pc := 64) C dX8_fits_64 (by decide) ?_
          exact zs_iret (pc := 68) C hr hlk dX8_fits_68 ⟨by repeat (first | exact zsn_rf | assumption | refine zsn_C (by decide) ?_ | refine zsn_I (by decide) ?_ | refine zsn_J ?_ | refine zsn_P ?_ | refine zsn_m (by assumption) (by decide) ?_ | refine zsn_c (by assumption) (by decide) ?_), (by with_reducible repeat (first | exact RF_rf | assumption | apply RF_I | apply RF_J | apply RF_C | apply RF_P | refine RF_c (by assumption) ?_ | refine RF_m (by assumption) ?_)), trivial⟩
      · skip
        refine zs_iload_n (pc := 19) C dX8_fits_19 rfl ?_
        refine zs_aload_n (pc := 20) C dX8_fits_20 rfl ?_
        refine zs_getf (pc := 21) C dX8_fits_21 w_X8_34 f_9_4 (by decide) ?_
        refine zs_iconst (pc := 24) C dX8_fits_24 (by decide) ?_
        refine zs_iload_n (pc := 25) C dX8_fits_25 rfl ?_
        first | refine zs_iadd (pc := 26) C dX8_fits_26 (by omega) ?_ | refine zs_iaddF (pc := 26) C dX8_fits_26 (fun z26 hz261 hz262 => ?_)
        refine zVi1 (pc := 27) C dX8_fits_27 v_X8_322 (c_X7_isFitting hX ) (by decide) (by decide) ⟨Nat.zero_le _, Nat.zero_le _⟩ (Nat.le_of_ble_eq_true rfl) (fun x27 G27 l27 u27 hp27 => ?_)
        obtain ⟨hz27, hq27⟩ := hp27
        refine zs_if_eq (tgt := 39) (pc := 30) C dX8_fits_30 (by decide) (fun h30 => ?_) (fun h30 => ?_)
        · skip
          refine zs_iconst (pc := 39) C dX8_fits_39 (by decide) ?_
          refine zs_iorF (pc := 40) C dX8_fits_40 (fun z40 hz401 hz402 => ?_)
          refine zs_istore_n (pc := 41) C dX8_fits_41 (by decide) ?_
          dsimp only [zset, zclr, znone]
          first | refine zs_iinc (pc := 42) C dX8_fits_42 rfl (by decide) (by omega) ?_ | refine zs_iincF (pc := 42) C dX8_fits_42 rfl (by decide) (fun z42 hz421 hz422 => ?_)
          dsimp only [zset, zclr, znone]
          refine zs_goto (tgt := 14) (pc := 45) C dX8_fits_45 (by decide) ?_
          exact zs_wk (ih14 _ _ _ _ (by first | omega | (simp only [zuI_1, zuI_2, zuJ_1, zuJ_2, zuJ_3, zuP_1, zuP_2, zuP_3, zuC_1, zuC_2, reduceIte, Nat.reduceEqDiff, false_and, and_false, true_and, and_true, and_self, or_true, true_or, or_false, false_or]; omega)) (by first | omega | (simp only [zuI_1, zuI_2, zuJ_1, zuJ_2, zuJ_3, zuP_1, zuP_2, zuP_3, zuC_1, zuC_2, reduceIte, Nat.reduceEqDiff, false_and, and_false, true_and, and_true, and_self, or_true, true_or, or_false, false_or]; omega)) (by repeat (first | exact zsn_rf | assumption | refine zsn_C (by decide) ?_ | refine zsn_I (by decide) ?_ | refine zsn_J ?_ | refine zsn_P ?_ | refine zsn_m (by assumption) (by decide) ?_ | refine zsn_c (by assumption) (by decide) ?_)) (by with_reducible repeat (first | exact RF_rf | assumption | apply RF_I | apply RF_J | apply RF_C | apply RF_P | refine RF_c (by assumption) ?_ | refine RF_m (by assumption) ?_)) (by first | omega | (simp only [zuI_1, zuI_2, zuJ_1, zuJ_2, zuJ_3, zuP_1, zuP_2, zuP_3, zuC_1, zuC_2, reduceIte, Nat.reduceEqDiff, false_and, and_false, true_and, and_true, and_self, or_true, true_or, or_false, false_or]; omega))) (zwk_s rfl (zwk_s rfl (zwk_s rfl (zwk_s rfl zwk_0))))
        · skip
          refine zs_iconst (pc := 33) C dX8_fits_33 (by decide) ?_
          refine zs_iload_n (pc := 34) C dX8_fits_34 rfl ?_
          refine zs_ishlF (pc := 35) C dX8_fits_35 (fun z35 hz351 hz352 => ?_)
          refine zs_goto (tgt := 40) (pc := 36) C dX8_fits_36 (by decide) ?_
          refine zs_iorF (pc := 40) C dX8_fits_40 (fun z40 hz401 hz402 => ?_)
          refine zs_istore_n (pc := 41) C dX8_fits_41 (by decide) ?_
          dsimp only [zset, zclr, znone]
          first | refine zs_iinc (pc := 42) C dX8_fits_42 rfl (by decide) (by omega) ?_ | refine zs_iincF (pc := 42) C dX8_fits_42 rfl (by decide) (fun z42 hz421 hz422 => ?_)
          dsimp only [zset, zclr, znone]
          refine zs_goto (tgt := 14) (pc := 45) C dX8_fits_45 (by decide) ?_
          exact zs_wk (ih14 _ _ _ _ (by first | omega | (simp only [zuI_1, zuI_2, zuJ_1, zuJ_2, zuJ_3, zuP_1, zuP_2, zuP_3, zuC_1, zuC_2, reduceIte, Nat.reduceEqDiff, false_and, and_false, true_and, and_true, and_self, or_true, true_or, or_false, false_or]; omega)) (by first | omega | (simp only [zuI_1, zuI_2, zuJ_1, zuJ_2, zuJ_3, zuP_1, zuP_2, zuP_3, zuC_1, zuC_2, reduceIte, Nat.reduceEqDiff, false_and, and_false, true_and, and_true, and_self, or_true, true_or, or_false, false_or]; omega)) (by repeat (first | exact zsn_rf | assumption | refine zsn_C (by decide) ?_ | refine zsn_I (by decide) ?_ | refine zsn_J ?_ | refine zsn_P ?_ | refine zsn_m (by assumption) (by decide) ?_ | refine zsn_c (by assumption) (by decide) ?_)) (by with_reducible repeat (first | exact RF_rf | assumption | apply RF_I | apply RF_J | apply RF_C | apply RF_P | refine RF_c (by assumption) ?_ | refine RF_m (by assumption) ?_)) (by first | omega | (simp only [zuI_1, zuI_2, zuJ_1, zuJ_2, zuJ_3, zuP_1, zuP_2, zuP_3, zuC_1, zuC_2, reduceIte, Nat.reduceEqDiff, false_and, and_false, true_and, and_true, and_self, or_true, true_or, or_false, false_or]; omega))) (zwk_s rfl (zwk_s rfl (zwk_s rfl (zwk_s rfl zwk_0))))
  exact zs_wk (L14 _ _ _ _ _ (by first | omega | (simp only [zuI_1, zuI_2, zuJ_1, zuJ_2, zuJ_3, zuP_1, zuP_2, zuP_3, zuC_1, zuC_2, reduceIte, Nat.reduceEqDiff, false_and, and_false, true_and, and_true, and_self, or_true, true_or, or_false, false_or]; omega)) (by first | omega | (simp only [zuI_1, zuI_2, zuJ_1, zuJ_2, zuJ_3, zuP_1, zuP_2, zuP_3, zuC_1, zuC_2, reduceIte, Nat.reduceEqDiff, false_and, and_false, true_and, and_true, and_self, or_true, true_or, or_false, false_or]; omega)) (by repeat (first | exact zsn_rf | assumption | refine zsn_C (by decide) ?_ | refine zsn_I (by decide) ?_ | refine zsn_J ?_ | refine zsn_P ?_ | refine zsn_m (by assumption) (by decide) ?_ | refine zsn_c (by assumption) (by decide) ?_)) (by with_reducible repeat (first | exact RF_rf | assumption | apply RF_I | apply RF_J | apply RF_C | apply RF_P | refine RF_c (by assumption) ?_ | refine RF_m (by assumption) ?_)) (Nat.lt_succ_self _)) (zwk_s rfl (zwk_s rfl (zwk_s rfl (zwk_s rfl zwk_0))))

set_option maxHeartbeats 4000000 in
set_option maxRecDepth 100000 in
theorem c_X8_undoR {l : Launch} {Γ : zΓ} {G : zH} {w : Nat}  (hX : zXs Γ)  : zMet l Γ yX8_undo cX8_undo 2 (some .int) 2 [zr 9 w] G (zpi (fun x G' => zsn [910, 2020, 2030, 2053, 2048, 2049, 2052, 510, 2026, 2027, 2028, 2029, 2031, 2032, 2033, 2034, 2035, 810, 811, 2050, 2051] G G' ∧ RF G G' ∧ True)) := by
  refine zMet_of RX8 hX (by decide) rfl (Nat.le_of_ble_eq_true rfl) ?_
  intro p e s m args below meth c C hr hlk
  show Z p l e (zrm 2) s m args below meth c Γ 2 0 0 (MQ below (zQc Γ (zpi (fun x G' => zsn [910, 2020, 2030, 2053, 2048, 2049, 2052, 510, 2026, 2027, 2028, 2029, 2031, 2032, 2033, 2034, 2035, 810, 811, 2050, 2051] G G' ∧ RF G G' ∧ True))) args s 0 0 (zA Γ)) 0 [some (zr 9 w), none] [] G
  refine zs_aload_n (pc := 0) C dX8_undo_0 rfl ?_
  refine zs_geti (r := 910) (pc := 1) C dX8_undo_1 w_X8_94 f_9_10 rfl (r_910 0) (fun v1 e1 l1 u1 => ?_)
  refine zs_if_gt (tgt := 9) (pc := 4) C dX8_undo_4 (by decide) (fun h4 => ?_) (fun h4 => ?_)
  · skip
    refine zs_aload_n (pc := 9) C dX8_undo_9 rfl ?_
    refine zs_dupa (pc := 10) C dX8_undo_10 ?_
    refine zs_geti (r := 910) (pc := 11) C dX8_undo_11 w_X8_94 f_9_10 rfl (r_910 0) (fun v11 e11 l11 u11 => ?_)
    refine zs_iconst (pc := 14) C dX8_undo_14 (by decide) ?_
    first | refine zs_isub (pc := 15) C dX8_undo_15 (by omega) ?_ | refine zs_isubF (pc := 15) C dX8_undo_15 (fun z15 hz151 hz152 => ?_)
    refine zs_puti (r := 910) (pc := 16) C dX8_undo_16 w_X8_94 f_9_10 rfl (r_910 0) (by omega) ?_
    refine zs_aload_n (pc := 19) C dX8_undo_19 rfl ?_
    refine zs_getf (pc := 20) C dX8_undo_20 w_X8_49 f_9_7 (by decide) ?_
    refine zVv0 (pc := 23) C dX8_undo_23 v_X8_97 (c_X2_forget hX ) (by decide) (by decide) ⟨Nat.zero_le _, Nat.zero_le _⟩ (Nat.le_of_ble_eq_true rfl) (fun G23 hp23 => ?_)
    obtain ⟨hz23, hq23⟩ := hp23
    try simp only [zuI_1, zuI_2, zuJ_1, zuJ_2, zuJ_3, zuP_1, zuP_2, zuP_3, zuC_1, zuC_2, reduceIte, Nat.reduceEqDiff, false_and, and_false, true_and, and_true, and_self, or_true, true_or, or_false, false_or] at hq23
    have tr23_910 := zsm_at hz23 910 w 0 (by decide)
    try simp only [zuI_1, zuI_2, zuJ_1, zuJ_2, zuJ_3, zuP_1, zuP_2, zuP_3, zuC_1, zuC_2, reduceIte, Nat.reduceEqDiff, false_and, and_false, true_and, and_true, and_self, or_true, true_or, or_false, false_or] at tr23_910
    refine zs_aload_n (pc := 26) C dX8_undo_26 rfl ?_
    refine zs_getf (pc := 27) C dX8_undo_27 w_X8_60 f_9_9 (by decide) ?_
    refine zs_aload_n (pc := 30) C dX8_undo_30 rfl ?_
    refine zs_geti (r := 910) (pc := 31) C dX8_undo_31 w_X8_94 f_9_10 rfl (r_910 0) (fun v31 e31 l31 u31 => ?_)
    refine zs_iald (r := 2056) (pc := 34) C dX8_undo_34 a_56 (by decide) (by omega) rfl (r_2056 _) (fun v34 e34 l34 u34 => ?_)
    refine zs_istore_n (pc := 35) C dX8_undo_35 (by decide) ?_
    dsimp only [zset, zclr, znone]
    refine zs_iload_n (pc := 36) C dX8_undo_36 rfl ?_
    refine zs_bipush (pc := 37) C dX8_undo_37 (by decide) (by decide) ?_
    refine zs_icmp_lt (tgt := 56) (pc := 39) C dX8_undo_39 (by decide) (fun h39 => ?_) (fun h39 => ?_)
    · skip
      refine zs_iload_n (pc := 56) C dX8_undo_56 rfl ?_
      refine zs_iconst (pc := 57) C dX8_undo_57 (by decide) ?_
      refine zs_icmp_lt (tgt := 81) (pc := 58) C dX8_undo_58 (by decide) (fun h58 => ?_) (fun h58 => ?_)
      · skip
        refine zs_aload_n (pc := 81) C dX8_undo_81 rfl ?_
        refine zs_getf (pc := 82) C dX8_undo_82 w_X8_34 f_9_4 (by decide) ?_
        refine zVv0 (pc := 85) C dX8_undo_85 v_X8_331 (c_X7_ungrind hX ) (by decide) (by decide) ⟨Nat.zero_le _, Nat.zero_le _⟩ (Nat.le_of_ble_eq_true rfl) (fun G85 hp85 => ?_)
        obtain ⟨hz85, hq85⟩ := hp85
        have tr85_910 := zsm_at hz85 910 w 0 (by decide)
        try simp only [zuI_1, zuI_2, zuJ_1, zuJ_2, zuJ_3, zuP_1, zuP_2, zuP_3, zuC_1, zuC_2, reduceIte, Nat.reduceEqDiff, false_and, and_false, true_and, and_true, and_self, or_true, true_or, or_false, false_or] at tr85_910
        refine zs_aload_n (pc := 88) C dX8_undo_88 rfl ?_
        refine zs_geti (r := 910) (pc := 89) C dX8_undo_89 w_X8_94 f_9_10 rfl (r_910 0) (fun v89 e89 l89 u89 => ?_)
        exact zs_iret (pc := 92) C hr hlk dX8_undo_92 ⟨by repeat (first | exact zsn_rf | assumption | refine zsn_C (by decide) ?_ | refine zsn_I (by decide) ?_ | refine zsn_J ?_ | refine zsn_P ?_ | refine zsn_m (by assumption) (by decide) ?_ | refine zsn_c (by assumption) (by decide) ?_), (by with_reducible repeat (first | exact RF_rf | assumption | apply RF_I | apply RF_J | apply RF_C | apply RF_P | refine RF_c (by assumption) ?_ | refine RF_m (by assumption) ?_)), trivial⟩
      · skip
        refine zs_aload_n (pc := 61) C dX8_undo_61 rfl ?_
        refine zs_getf (pc := 62) C dX8_undo_62 w_X8_34 f_9_4 (by decide) ?_
        refine zs_iload_n (pc := 65) C dX8_undo_65 rfl ?_
        refine zs_iconst (pc := 66) C dX8_undo_66 (by decide) ?_
        first | refine zs_isub (pc := 67) C dX8_undo_67 (by omega) ?_ | refine zs_isubF (pc := 67) C dX8_undo_67 (fun z67 hz671 hz672 => ?_)
        refine zs_iconst (pc := 68) C dX8_undo_68 (by decide) ?_
        first | refine zs_idiv (pc := 69) C dX8_undo_69 (by omega) (by omega) (fun hz691 hz692 => ?_) | refine zs_idivF (pc := 69) C dX8_undo_69 (by omega) (fun z69 hz691 hz692 => ?_)
        refine zs_iload_n (pc := 70) C dX8_undo_70 rfl ?_
        refine zs_iconst (pc := 71) C dX8_undo_71 (by decide) ?_
        first | refine zs_isub (pc := 72) C dX8_undo_72 (by omega) ?_ | refine zs_isubF (pc := 72) C dX8_undo_72 (fun z72 hz721 hz722 => ?_)
        refine zs_iconst (pc := 73) C dX8_undo_73 (by decide) ?_
        first | refine zs_irem (pc := 74) C dX8_undo_74 (by omega) (by omega) (fun hz741 hz742 => ?_) | refine zs_iremF (pc := 74) C dX8_undo_74 (by omega) (fun z74 hz741 hz742 => ?_)
        refine zVv2 (pc := 75) C dX8_undo_75 v_X8_328 (c_X7_unfall hX (by omega) (by omega)) (by decide) (by decide) ⟨Nat.zero_le _, Nat.zero_le _⟩ (Nat.le_of_ble_eq_true rfl) (fun G75 hp75 => ?_)
        obtain ⟨hz75, hq75⟩ := hp75
        have tr75_910 := zsm_at hz75 910 w 0 (by decide)
        try simp only [zuI_1, zuI_2, zuJ_1, zuJ_2, zuJ_3, zuP_1, zuP_2, zuP_3, zuC_1, zuC_2, reduceIte, Nat.reduceEqDiff, false_and, and_false, true_and, and_true, and_self, or_true, true_or, or_false, false_or] at tr75_910
        refine zs_goto (tgt := 88) (pc := 78) C dX8_undo_78 (by decide) ?_
        refine zs_aload_n (pc := 88) C dX8_undo_88 rfl ?_
        refine zs_geti (r := 910) (pc := 89) C dX8_undo_89 w_X8_94 f_9_10 rfl (r_910 0) (fun v89 e89 l89 u89 => ?_)
        exact zs_iret (pc := 92) C hr hlk dX8_undo_92 ⟨by repeat (first | exact zsn_rf | assumption | refine zsn_C (by decide) ?_ | refine zsn_I (by decide) ?_ | refine zsn_J ?_ | refine zsn_P ?_ | refine zsn_m (by assumption) (by decide) ?_ | refine zsn_c (by assumption) (by decide) ?_), (by with_reducible repeat (first | exact RF_rf | assumption | apply RF_I | apply RF_J | apply RF_C | apply RF_P | refine RF_c (by assumption) ?_ | refine RF_m (by assumption) ?_)), trivial⟩
    · skip
      refine zs_aload_n (pc := 42) C dX8_undo_42 rfl ?_
      refine zs_getf (pc := 43) C dX8_undo_43 w_X8_34 f_9_4 (by decide) ?_
      refine zs_iload_n (pc := 46) C dX8_undo_46 rfl ?_
      refine zs_bipush (pc := 47) C dX8_undo_47 (by decide) (by decide) ?_
      first | refine zs_isub (pc := 49) C dX8_undo_49 (by omega) ?_ | refine zs_isubF (pc := 49) C dX8_undo_49 (fun z49 hz491 hz492 => ?_)
      refine zVv1 (pc := 50) C dX8_undo_50 v_X8_325 (c_X7_unbake hX (by omega)) (by decide) (by decide) ⟨Nat.zero_le _, Nat.zero_le _⟩ (Nat.le_of_ble_eq_true rfl) (fun G50 hp50 => ?_)
      obtain ⟨hz50, hq50⟩ := hp50
      have tr50_910 := zsm_at hz50 910 w 0 (by decide)
      try simp only [zuI_1, zuI_2, zuJ_1, zuJ_2, zuJ_3, zuP_1, zuP_2, zuP_3, zuC_1, zuC_2, reduceIte, Nat.reduceEqDiff, false_and, and_false, true_and, and_true, and_self, or_true, true_or, or_false, false_or] at tr50_910
      refine zs_goto (tgt := 88) (pc := 53) C dX8_undo_53 (by decide) ?_
      refine zs_aload_n (pc := 88) C dX8_undo_88 rfl ?_
      refine zs_geti (r := 910) (pc := 89) C dX8_undo_89 w_X8_94 f_9_10 rfl (r_910 0) (fun v89 e89 l89 u89 => ?_)
      exact zs_iret (pc := 92) C hr hlk dX8_undo_92 ⟨by repeat (first | exact zsn_rf | assumption | refine zsn_C (by decide) ?_ | refine zsn_I (by decide) ?_ | refine zsn_J ?_ | refine zsn_P ?_ | refine zsn_m (by assumption) (by decide) ?_ | refine zsn_c (by assumption) (by decide) ?_), (by with_reducible repeat (first | exact RF_rf | assumption | apply RF_I | apply RF_J | apply RF_C | apply RF_P | refine RF_c (by assumption) ?_ | refine RF_m (by assumption) ?_)), trivial⟩
  · skip
    refine zs_iconst (pc := 7) C dX8_undo_7 (by decide) ?_
    exact zs_iret (pc := 8) C hr hlk dX8_undo_8 ⟨by repeat (first | exact zsn_rf | assumption | refine zsn_C (by decide) ?_ | refine zsn_I (by decide) ?_ | refine zsn_J ?_ | refine zsn_P ?_ | refine zsn_m (by assumption) (by decide) ?_ | refine zsn_c (by assumption) (by decide) ?_), (by with_reducible repeat (first | exact RF_rf | assumption | apply RF_I | apply RF_J | apply RF_C | apply RF_P | refine RF_c (by assumption) ?_ | refine RF_m (by assumption) ?_)), trivial⟩

set_option maxHeartbeats 4000000 in
set_option maxRecDepth 100000 in
theorem c_X8_keepR {l : Launch} {Γ : zΓ} {G : zH} {w : Nat}  (hX : zXs Γ)  : zMet l Γ yX8_keep cX8_keep 1 (some .int) 3 [zr 9 w] G (zpi (fun x G' => zsn [510, 2026, 2027, 2028, 2029, 2030, 2031, 2032, 2033, 2034, 2035, 2048, 2049, 2050, 2051, 2052, 2053, 809, 810, 811, 812, 813, 911] G G' ∧ RF G G' ∧ True)) := by
  refine zMet_of RX8 hX (by decide) rfl (Nat.le_of_ble_eq_true rfl) ?_
  intro p e s m args below meth c C hr hlk
  show Z p l e (zrm 3) s m args below meth c Γ 1 0 0 (MQ below (zQc Γ (zpi (fun x G' => zsn [510, 2026, 2027, 2028, 2029, 2030, 2031, 2032, 2033, 2034, 2035, 2048, 2049, 2050, 2051, 2052, 2053, 809, 810, 811, 812, 813, 911] G G' ∧ RF G G' ∧ True))) args s 0 0 (zA Γ)) 0 [some (zr 9 w)] [] G
  refine zs_aload_n (pc := 0) C dX8_keep_0 rfl ?_
  refine zs_getf (pc := 1) C dX8_keep_1 w_X8_38 f_9_5 (by decide) ?_
  refine zs_aload_n (pc := 4) C dX8_keep_4 rfl ?_
  refine zs_getf (pc := 5) C dX8_keep_5 w_X8_34 f_9_4 (by decide) ?_
  refine zVv1 (pc := 8) C dX8_keep_8 v_X8_288 (c_X7_copyFromR hX ) (by decide) (by decide) ⟨Nat.zero_le _, Nat.zero_le _⟩ (Nat.le_of_ble_eq_true rfl) (fun G8 hp8 => ?_)
  obtain ⟨hz8, lo8, hq8⟩ := hp8
  refine zs_aload_n (pc := 11) C dX8_keep_11 rfl ?_
  refine zs_iconst (pc := 12) C dX8_keep_12 (by decide) ?_
  refine zs_putz (r := 911) (pc := 13) C dX8_keep_13 w_X8_90 f_9_11 rfl (r_911 0) (by omega) (by omega) ?_
  refine zs_aload_n (pc := 16) C dX8_keep_16 rfl ?_
  refine zs_getf (pc := 17) C dX8_keep_17 w_X8_34 f_9_4 (by decide) ?_
  refine zs_geti (r := 809) (pc := 20) C dX8_keep_20 w_X8_221 f_8_9 rfl (r_809 0) (fun v20 e20 l20 u20 => ?_)
  try simp only [zuI_1, zuI_2, zuJ_1, zuJ_2, zuJ_3, zuP_1, zuP_2, zuP_3, zuC_1, zuC_2, reduceIte, Nat.reduceEqDiff, false_and, and_false, true_and, and_true, and_self, or_true, true_or, or_false, false_or] at e20
  exact zs_iret (pc := 23) C hr hlk dX8_keep_23 ⟨by repeat (first | exact zsn_rf | assumption | refine zsn_C (by decide) ?_ | refine zsn_I (by decide) ?_ | refine zsn_J ?_ | refine zsn_P ?_ | refine zsn_m (by assumption) (by decide) ?_ | refine zsn_c (by assumption) (by decide) ?_), (by with_reducible repeat (first | exact RF_rf | assumption | apply RF_I | apply RF_J | apply RF_C | apply RF_P | refine RF_c (by assumption) ?_ | refine RF_m (by assumption) ?_)), trivial⟩

set_option maxHeartbeats 4000000 in
set_option maxRecDepth 100000 in
theorem c_X8_backR {l : Launch} {Γ : zΓ} {G : zH} {w : Nat}  (hX : zXs Γ)  : zMet l Γ yX8_back cX8_back 1 (some .int) 3 [zr 9 w] G (zpi (fun x G' => zsn [510, 2026, 2027, 2028, 2029, 2030, 2031, 2032, 2033, 2034, 2035, 2048, 2049, 2050, 2051, 2052, 2053, 809, 810, 811, 812, 813, 910, 2020] G G' ∧ RF G G' ∧ True)) := by
  refine zMet_of RX8 hX (by decide) rfl (Nat.le_of_ble_eq_true rfl) ?_
  intro p e s m args below meth c C hr hlk
  show Z p l e (zrm 3) s m args below meth c Γ 1 0 0 (MQ below (zQc Γ (zpi (fun x G' => zsn [510, 2026, 2027, 2028, 2029, 2030, 2031, 2032, 2033, 2034, 2035, 2048, 2049, 2050, 2051, 2052, 2053, 809, 810, 811, 812, 813, 910, 2020] G G' ∧ RF G G' ∧ True))) args s 0 0 (zA Γ)) 0 [some (zr 9 w)] [] G
  refine zs_aload_n (pc := 0) C dX8_back_0 rfl ?_
  refine zs_getz (r := 911) (pc := 1) C dX8_back_1 w_X8_90 f_9_11 rfl (r_911 0) (fun v1 e1 l1 u1 => ?_)
  refine zs_if_ne (tgt := 9) (pc := 4) C dX8_back_4 (by decide) (fun h4 => ?_) (fun h4 => ?_)
  · skip
    refine zs_aload_n (pc := 9) C dX8_back_9 rfl ?_
    refine zs_getf (pc := 10) C dX8_back_10 w_X8_34 f_9_4 (by decide) ?_
    refine zs_aload_n (pc := 13) C dX8_back_13 rfl ?_
    refine zs_getf (pc := 14) C dX8_back_14 w_X8_38 f_9_5 (by decide) ?_
    refine zVv1 (pc := 17) C dX8_back_17 v_X8_288 (c_X7_copyFromR hX ) (by decide) (by decide) ⟨Nat.zero_le _, Nat.zero_le _⟩ (Nat.le_of_ble_eq_true rfl) (fun G17 hp17 => ?_)
    obtain ⟨hz17, lo17, hq17⟩ := hp17
    refine zs_aload_n (pc := 20) C dX8_back_20 rfl ?_
    refine zs_iconst (pc := 21) C dX8_back_21 (by decide) ?_
    refine zs_puti (r := 910) (pc := 22) C dX8_back_22 w_X8_94 f_9_10 rfl (r_910 0) (by omega) ?_
    refine zs_aload_n (pc := 25) C dX8_back_25 rfl ?_
    refine zs_getf (pc := 26) C dX8_back_26 w_X8_49 f_9_7 (by decide) ?_
    refine zVv0 (pc := 29) C dX8_back_29 v_X8_97 (c_X2_forget hX ) (by decide) (by decide) ⟨Nat.zero_le _, Nat.zero_le _⟩ (Nat.le_of_ble_eq_true rfl) (fun G29 hp29 => ?_)
    obtain ⟨hz29, hq29⟩ := hp29
    try simp only [zuI_1, zuI_2, zuJ_1, zuJ_2, zuJ_3, zuP_1, zuP_2, zuP_3, zuC_1, zuC_2, reduceIte, Nat.reduceEqDiff, false_and, and_false, true_and, and_true, and_self, or_true, true_or, or_false, false_or] at hq29
    refine zs_aload_n (pc := 32) C dX8_back_32 rfl ?_
    refine zs_getf (pc := 33) C dX8_back_33 w_X8_34 f_9_4 (by decide) ?_
    refine zs_geti (r := 809) (pc := 36) C dX8_back_36 w_X8_221 f_8_9 rfl (r_809 0) (fun v36 e36 l36 u36 => ?_)
    exact zs_iret (pc := 39) C hr hlk dX8_back_39 ⟨by repeat (first | exact zsn_rf | assumption | refine zsn_C (by decide) ?_ | refine zsn_I (by decide) ?_ | refine zsn_J ?_ | refine zsn_P ?_ | refine zsn_m (by assumption) (by decide) ?_ | refine zsn_c (by assumption) (by decide) ?_), (by with_reducible repeat (first | exact RF_rf | assumption | apply RF_I | apply RF_J | apply RF_C | apply RF_P | refine RF_c (by assumption) ?_ | refine RF_m (by assumption) ?_)), trivial⟩
  · skip
    refine zs_iconst (pc := 7) C dX8_back_7 (by decide) ?_
    exact zs_iret (pc := 8) C hr hlk dX8_back_8 ⟨by repeat (first | exact zsn_rf | assumption | refine zsn_C (by decide) ?_ | refine zsn_I (by decide) ?_ | refine zsn_J ?_ | refine zsn_P ?_ | refine zsn_m (by assumption) (by decide) ?_ | refine zsn_c (by assumption) (by decide) ?_), (by with_reducible repeat (first | exact RF_rf | assumption | apply RF_I | apply RF_J | apply RF_C | apply RF_P | refine RF_c (by assumption) ?_ | refine RF_m (by assumption) ?_)), trivial⟩
