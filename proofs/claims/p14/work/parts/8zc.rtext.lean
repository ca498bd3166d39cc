set_option maxHeartbeats 4000000 in
set_option maxRecDepth 100000 in
theorem c_X9_keepTextW {l : Launch} {Γ : zΓ} {G : zH} {w : Nat}  {A : aS} (hX : zXs Γ) (hM : MI Γ w G)(hC : RC Γ w G) (hk0 : ∀ G1 : zH, KPT Γ w G G1 → kR Γ w A G1) (h80 : ∀ j : Nat, j < 20 → ¬ ((j : Int) < 4 * A 4 1 ∧ (j : Int) % 4 < A 4 0) → A 8 j = 0) : zMet l Γ yX9_keepText cX9_keepText 2 none 1 [zr 10 w] G (zpv (fun G' => zsm [1012, 1013, 1014, 1015, 1016, 2059, 2061, 2062, 2063, 2064, 2065, 2066, 2067, 2068, 2069, 2070, 2071, 2072, 2073, 2074, 2075, 2076, 2081, 2082, 2083, 2084, 2085, 2086, 2087, 2088, 2089, 2090, 1083, 1084, 1086] G G' ∧ (MI Γ w G' ∧ kR Γ w A G' ∧ (∀ W : aS, wBeg A W → rW Γ w 0 W G' ∧ rS Γ w W G' ∧ rD w W G') ∧ G'.1 1084 w 0 = 0 ∧ G'.1 1086 w 0 = 0))) := by
  refine zMet_of RX9 hX (by decide) rfl (Nat.le_of_ble_eq_true rfl) ?_
  intro p e s m args below meth c C hr hlk
  show Z p l e (zrm 1) s m args below meth c Γ 2 0 0 (MQ below (zQc Γ (zpv (fun G' => zsm [1012, 1013, 1014, 1015, 1016, 2059, 2061, 2062, 2063, 2064, 2065, 2066, 2067, 2068, 2069, 2070, 2071, 2072, 2073, 2074, 2075, 2076, 2081, 2082, 2083, 2084, 2085, 2086, 2087, 2088, 2089, 2090, 1083, 1084, 1086] G G' ∧ (MI Γ w G' ∧ kR Γ w A G' ∧ (∀ W : aS, wBeg A W → rW Γ w 0 W G' ∧ rS Γ w W G' ∧ rD w W G') ∧ G'.1 1084 w 0 = 0 ∧ G'.1 1086 w 0 = 0)))) args s 0 0 (zA Γ)) 0 [some (zr 10 w), none] [] G
  refine zs_aload_n (pc := 0) C dX9_keepText_0 rfl ?_
  refine zs_aload_n (pc := 1) C dX9_keepText_1 rfl ?_
  refine zs_geti (r := 1017) (pc := 2) C dX9_keepText_2 w_X9_240 f_10_17 rfl (r_1017 0) (fun v2 e2 l2 u2 => ?_)
  refine zs_puti (r := 1012) (pc := 5) C dX9_keepText_5 w_X9_258 f_10_12 rfl (r_1012 0) (by omega) ?_
  refine zs_aload_n (pc := 8) C dX9_keepText_8 rfl ?_
  refine zs_aload_n (pc := 9) C dX9_keepText_9 rfl ?_
  refine zs_geti (r := 1018) (pc := 10) C dX9_keepText_10 w_X9_243 f_10_18 rfl (r_1018 0) (fun v10 e10 l10 u10 => ?_)
  try simp only [zuI_1, zuI_2, zuJ_1, zuJ_2, zuJ_3, zuP_1, zuP_2, zuP_3, zuC_1, zuC_2, reduceIte, Nat.reduceEqDiff, false_and, and_false, true_and, and_true, and_self, or_true, true_or, or_false, false_or] at e10
  refine zs_puti (r := 1013) (pc := 13) C dX9_keepText_13 w_X9_261 f_10_13 rfl (r_1013 0) (by omega) ?_
  refine zs_aload_n (pc := 16) C dX9_keepText_16 rfl ?_
  refine zs_aload_n (pc := 17) C dX9_keepText_17 rfl ?_
  refine zs_geti (r := 1019) (pc := 18) C dX9_keepText_18 w_X9_246 f_10_19 rfl (r_1019 0) (fun v18 e18 l18 u18 => ?_)
  try simp only [zuI_1, zuI_2, zuJ_1, zuJ_2, zuJ_3, zuP_1, zuP_2, zuP_3, zuC_1, zuC_2, reduceIte, Nat.reduceEqDiff, false_and, and_false, true_and, and_true, and_self, or_true, true_or, or_false, false_or] at e18
  refine zs_puti (r := 1014) (pc := 21) C dX9_keepText_21 w_X9_264 f_10_14 rfl (r_1014 0) (by omega) ?_
  refine zs_aload_n (pc := 24) C dX9_keepText_24 rfl ?_
  refine zs_aload_n (pc := 25) C dX9_keepText_25 rfl ?_
  refine zs_geti (r := 1020) (pc := 26) C dX9_keepText_26 w_X9_249 f_10_20 rfl (r_1020 0) (fun v26 e26 l26 u26 => ?_)
  try simp only [zuI_1, zuI_2, zuJ_1, zuJ_2, zuJ_3, zuP_1, zuP_2, zuP_3, zuC_1, zuC_2, reduceIte, Nat.reduceEqDiff, false_and, and_false, true_and, and_true, and_self, or_true, true_or, or_false, false_or] at e26
  refine zs_puti (r := 1015) (pc := 29) C dX9_keepText_29 w_X9_267 f_10_15 rfl (r_1015 0) (by omega) ?_
  refine zs_aload_n (pc := 32) C dX9_keepText_32 rfl ?_
  refine zs_aload_n (pc := 33) C dX9_keepText_33 rfl ?_
  refine zs_geti (r := 1021) (pc := 34) C dX9_keepText_34 w_X9_252 f_10_21 rfl (r_1021 0) (fun v34 e34 l34 u34 => ?_)
  try simp only [zuI_1, zuI_2, zuJ_1, zuJ_2, zuJ_3, zuP_1, zuP_2, zuP_3, zuC_1, zuC_2, reduceIte, Nat.reduceEqDiff, false_and, and_false, true_and, and_true, and_self, or_true, true_or, or_false, false_or] at e34
  refine zs_puti (r := 1016) (pc := 37) C dX9_keepText_37 w_X9_270 f_10_16 rfl (r_1016 0) (by omega) ?_
  refine zs_aload_n (pc := 40) C dX9_keepText_40 rfl ?_
  refine zs_getf (pc := 41) C dX9_keepText_41 w_X9_20 f_10_22 (by decide) ?_
  refine zs_iconst (pc := 44) C dX9_keepText_44 (by decide) ?_
  refine zSv2 (pc := 45) C dX9_keepText_45 s_X9_273 (c_X9_copies59 hX (by omega)) (by decide) ⟨Nat.zero_le _, Nat.zero_le _⟩ (Nat.le_of_ble_eq_true rfl) (fun G45 hp45 => ?_)
  obtain ⟨hz45, hq45⟩ := hp45
  try simp only [zuI_1, zuI_2, zuJ_1, zuJ_2, zuJ_3, zuP_1, zuP_2, zuP_3, zuC_1, zuC_2, reduceIte, Nat.reduceEqDiff, false_and, and_false, true_and, and_true, and_self, or_true, true_or, or_false, false_or] at hq45
  refine zs_aload_n (pc := 48) C dX9_keepText_48 rfl ?_
  refine zs_getf (pc := 49) C dX9_keepText_49 w_X9_27 f_10_24 (by decide) ?_
  refine zs_iconst (pc := 52) C dX9_keepText_52 (by decide) ?_
  refine zSv2 (pc := 53) C dX9_keepText_53 s_X9_273 (c_X9_copies61 hX (by omega)) (by decide) ⟨Nat.zero_le _, Nat.zero_le _⟩ (Nat.le_of_ble_eq_true rfl) (fun G53 hp53 => ?_)
  obtain ⟨hz53, hq53⟩ := hp53
  refine zs_aload_n (pc := 56) C dX9_keepText_56 rfl ?_
  refine zs_getf (pc := 57) C dX9_keepText_57 w_X9_30 f_10_25 (by decide) ?_
  refine zs_iconst (pc := 60) C dX9_keepText_60 (by decide) ?_
  refine zSv2 (pc := 61) C dX9_keepText_61 s_X9_273 (c_X9_copies62 hX (by omega)) (by decide) ⟨Nat.zero_le _, Nat.zero_le _⟩ (Nat.le_of_ble_eq_true rfl) (fun G61 hp61 => ?_)
  obtain ⟨hz61, hq61⟩ := hp61
  refine zs_aload_n (pc := 64) C dX9_keepText_64 rfl ?_
  refine zs_getf (pc := 65) C dX9_keepText_65 w_X9_33 f_10_26 (by decide) ?_
  refine zs_iconst (pc := 68) C dX9_keepText_68 (by decide) ?_
  refine zSv2 (pc := 69) C dX9_keepText_69 s_X9_273 (c_X9_copies63 hX (by omega)) (by decide) ⟨Nat.zero_le _, Nat.zero_le _⟩ (Nat.le_of_ble_eq_true rfl) (fun G69 hp69 => ?_)
  obtain ⟨hz69, hq69⟩ := hp69
  refine zs_aload_n (pc := 72) C dX9_keepText_72 rfl ?_
  refine zs_getf (pc := 73) C dX9_keepText_73 w_X9_36 f_10_27 (by decide) ?_
  refine zs_iconst (pc := 76) C dX9_keepText_76 (by decide) ?_
  refine zSv2 (pc := 77) C dX9_keepText_77 s_X9_273 (c_X9_copies64 hX (by omega)) (by decide) ⟨Nat.zero_le _, Nat.zero_le _⟩ (Nat.le_of_ble_eq_true rfl) (fun G77 hp77 => ?_)
  obtain ⟨hz77, hq77⟩ := hp77
  refine zs_aload_n (pc := 80) C dX9_keepText_80 rfl ?_
  refine zs_getf (pc := 81) C dX9_keepText_81 w_X9_39 f_10_28 (by decide) ?_
  refine zs_bipush (pc := 84) C dX9_keepText_84 (by decide) (by decide) ?_
  refine zSv2 (pc := 86) C dX9_keepText_86 s_X9_273 (c_X9_copies65 hX (by omega)) (by decide) ⟨Nat.zero_le _, Nat.zero_le _⟩ (Nat.le_of_ble_eq_true rfl) (fun G86 hp86 => ?_)
  obtain ⟨hz86, hq86⟩ := hp86
  refine zs_aload_n (pc := 89) C dX9_keepText_89 rfl ?_
  refine zs_getf (pc := 90) C dX9_keepText_90 w_X9_42 f_10_29 (by decide) ?_
  refine zs_iconst (pc := 93) C dX9_keepText_93 (by decide) ?_
  refine zSv2 (pc := 94) C dX9_keepText_94 s_X9_273 (c_X9_copies66 hX (by omega)) (by decide) ⟨Nat.zero_le _, Nat.zero_le _⟩ (Nat.le_of_ble_eq_true rfl) (fun G94 hp94 => ?_)
  obtain ⟨hz94, hq94⟩ := hp94
  refine zs_aload_n (pc := 97) C dX9_keepText_97 rfl ?_
  refine zs_getf (pc := 98) C dX9_keepText_98 w_X9_45 f_10_30 (by decide) ?_
  refine zs_iconst (pc := 101) C dX9_keepText_101 (by decide) ?_
  refine zSv2 (pc := 102) C dX9_keepText_102 s_X9_273 (c_X9_copies67 hX (by omega)) (by decide) ⟨Nat.zero_le _, Nat.zero_le _⟩ (Nat.le_of_ble_eq_true rfl) (fun G102 hp102 => ?_)
  obtain ⟨hz102, hq102⟩ := hp102
  refine zs_aload_n (pc := 105) C dX9_keepText_105 rfl ?_
  refine zs_getf (pc := 106) C dX9_keepText_106 w_X9_48 f_10_31 (by decide) ?_
  refine zs_iconst (pc := 109) C dX9_keepText_109 (by decide) ?_
  refine zSv2 (pc := 110) C dX9_keepText_110 s_X9_273 (c_X9_copies68 hX (by omega)) (by decide) ⟨Nat.zero_le _, Nat.zero_le _⟩ (Nat.le_of_ble_eq_true rfl) (fun G110 hp110 => ?_)
  obtain ⟨hz110, hq110⟩ := hp110
  refine zs_aload_n (pc := 113) C dX9_keepText_113 rfl ?_
  refine zs_getf (pc := 114) C dX9_keepText_114 w_X9_51 f_10_32 (by decide) ?_
  refine zs_iconst (pc := 117) C dX9_keepText_117 (by decide) ?_
  refine zSv2 (pc := 118) C dX9_keepText_118 s_X9_273 (c_X9_copies69 hX (by omega)) (by decide) ⟨Nat.zero_le _, Nat.zero_le _⟩ (Nat.le_of_ble_eq_true rfl) (fun G118 hp118 => ?_)
  obtain ⟨hz118, hq118⟩ := hp118
  refine zs_aload_n (pc := 121) C dX9_keepText_121 rfl ?_
  refine zs_getf (pc := 122) C dX9_keepText_122 w_X9_54 f_10_33 (by decide) ?_
  refine zs_iconst (pc := 125) C dX9_keepText_125 (by decide) ?_
  refine zSv2 (pc := 126) C dX9_keepText_126 s_X9_273 (c_X9_copies70 hX (by omega)) (by decide) ⟨Nat.zero_le _, Nat.zero_le _⟩ (Nat.le_of_ble_eq_true rfl) (fun G126 hp126 => ?_)
  obtain ⟨hz126, hq126⟩ := hp126
  refine zs_iconst (pc := 129) C dX9_keepText_129 (by decide) ?_
  refine zs_istore_n (pc := 130) C dX9_keepText_130 (by decide) ?_
  dsimp only [zset, zclr, znone]
  have L131 : ∀ (nn : Nat) (x1 : Int) (G1 : zH), (0 ≤ x1 ∧ x1 ≤ 7) → (zsm [1012, 1013, 1014, 1015, 1016, 2059, 2061, 2062, 2063, 2064, 2065, 2066, 2067, 2068, 2069, 2070, 2071] G G1) → (CP (G.1 2071 (Γ.2.1 w 34)) (G1.1 2071 (Γ.2.1 w 34)) (7 : Int).toNat x1) → (zsm [2071] G126 G1) → (7 - x1).toNat < nn → Z p l e (zrm 1) s m args below meth c Γ 2 0 0 (MQ below (zQc Γ (zpv (fun G' => zsm [1012, 1013, 1014, 1015, 1016, 2059, 2061, 2062, 2063, 2064, 2065, 2066, 2067, 2068, 2069, 2070, 2071, 2072, 2073, 2074, 2075, 2076, 2081, 2082, 2083, 2084, 2085, 2086, 2087, 2088, 2089, 2090, 1083, 1084, 1086] G G' ∧ (MI Γ w G' ∧ kR Γ w A G' ∧ (∀ W : aS, wBeg A W → rW Γ w 0 W G' ∧ rS Γ w W G' ∧ rD w W G') ∧ G'.1 1084 w 0 = 0 ∧ G'.1 1086 w 0 = 0)))) args s 0 0 (zA Γ)) 131 [some (zr 10 w), some (zi x1)] [] G1 := by
    intro nn
    induction nn with
    | zero => intro x1 G1 h131_0 h131_1 h131_2 h131_3 hm; exact absurd hm (Nat.not_lt_zero _)
    | succ nn ih131 =>
      intro x1 G1 h131_0 h131_1 h131_2 h131_3 hm131
      refine zs_iload_n (pc := 131) C dX9_keepText_131 rfl ?_
      refine zs_bipush (pc := 132) C dX9_keepText_132 (by decide) (by decide) ?_
      refine zs_icmp_ge (tgt := 158) (pc := 134) C dX9_keepText_134 (by decide) (fun h134 => ?_) (fun h134 => ?_)
      · skip
        refine zs_aload_n (pc := 158) C dX9_keepText_158 rfl ?_
        refine zs_getf (pc := 159) C dX9_keepText_159 w_X9_60 f_10_35 (by decide) ?_
        refine zs_bipush (pc := 162) C dX9_keepText_162 (by decide) (by decide) ?_
        refine zSv2 (pc := 164) C dX9_keepText_164 s_X9_273 (c_X9_copies72 hX (by omega)) (by decide) ⟨Nat.zero_le _, Nat.zero_le _⟩ (Nat.le_of_ble_eq_true rfl) (fun G164 hp164 => ?_)
        obtain ⟨hz164, hq164⟩ := hp164
        refine zs_aload_n (pc := 167) C dX9_keepText_167 rfl ?_
        refine zs_getf (pc := 168) C dX9_keepText_168 w_X9_63 f_10_36 (by decide) ?_
        refine zs_bipush (pc := 171) C dX9_keepText_171 (by decide) (by decide) ?_
        refine zSv2 (pc := 173) C dX9_keepText_173 s_X9_273 (c_X9_copies73 hX (by omega)) (by decide) ⟨Nat.zero_le _, Nat.zero_le _⟩ (Nat.le_of_ble_eq_true rfl) (fun G173 hp173 => ?_)
        obtain ⟨hz173, hq173⟩ := hp173
        refine zs_aload_n (pc := 176) C dX9_keepText_176 rfl ?_
        refine zs_getf (pc := 177) C dX9_keepText_177 w_X9_66 f_10_37 (by decide) ?_
        refine zs_bipush (pc := 180) C dX9_keepText_180 (by decide) (by decide) ?_
        refine zSv2 (pc := 182) C dX9_keepText_182 s_X9_273 (c_X9_copies74 hX (by omega)) (by decide) ⟨Nat.zero_le _, Nat.zero_le _⟩ (Nat.le_of_ble_eq_true rfl) (fun G182 hp182 => ?_)
        obtain ⟨hz182, hq182⟩ := hp182
        refine zs_aload_n (pc := 185) C dX9_keepText_185 rfl ?_
        refine zs_getf (pc := 186) C dX9_keepText_186 w_X9_69 f_10_38 (by decide) ?_
        refine zs_bipush (pc := 189) C dX9_keepText_189 (by decide) (by decide) ?_
        refine zSv2 (pc := 191) C dX9_keepText_191 s_X9_273 (c_X9_copies75 hX (by omega)) (by decide) ⟨Nat.zero_le _, Nat.zero_le _⟩ (Nat.le_of_ble_eq_true rfl) (fun G191 hp191 => ?_)
        obtain ⟨hz191, hq191⟩ := hp191
        refine zs_aload_n (pc := 194) C dX9_keepText_194 rfl ?_
        refine zs_getf (pc := 195) C dX9_keepText_195 w_X9_72 f_10_39 (by decide) ?_
        refine zs_bipush (pc := 198) C dX9_keepText_198 (by decide) (by decide) ?_
        refine zSv2 (pc := 200) C dX9_keepText_200 s_X9_273 (c_X9_copies76 hX (by omega)) (by decide) ⟨Nat.zero_le _, Nat.zero_le _⟩ (Nat.le_of_ble_eq_true rfl) (fun G200 hp200 => ?_)
        obtain ⟨hz200, hq200⟩ := hp200
        have hx1 : x1 = 7 := by omega
        rw [hx1] at h131_2
        have e71z : G200.1 2071 = G1.1 2071 := by rw [hz200.1 2071 (by decide), hz191.1 2071 (by decide), hz182.1 2071 (by decide), hz173.1 2071 (by decide), hz164.1 2071 (by decide)]
        have k59 : ∀ j : Nat, j < 4 → G200.1 2059 (Γ.2.1 w 22) j = G.1 2059 (Γ.2.1 w 22) (4 + j) := fun j hj => by
          rw [hz200.1 2059 (by decide), hz191.1 2059 (by decide), hz182.1 2059 (by decide), hz173.1 2059 (by decide), hz164.1 2059 (by decide), h131_3.1 2059 (by decide), hz126.1 2059 (by decide), hz118.1 2059 (by decide), hz110.1 2059 (by decide), hz102.1 2059 (by decide), hz94.1 2059 (by decide), hz86.1 2059 (by decide), hz77.1 2059 (by decide), hz69.1 2059 (by decide), hz61.1 2059 (by decide), hz53.1 2059 (by decide)]
          have q := CP_at (n := 4) hq45 (j := j) hj
          rw [zuI_nf (show (2059 : Nat) ≠ 1016 by decide), zuI_nf (show (2059 : Nat) ≠ 1015 by decide), zuI_nf (show (2059 : Nat) ≠ 1014 by decide), zuI_nf (show (2059 : Nat) ≠ 1013 by decide), zuI_nf (show (2059 : Nat) ≠ 1012 by decide)] at q
          exact q
        have k61 : ∀ j : Nat, j < 4 → G200.1 2061 (Γ.2.1 w 24) j = G.1 2061 (Γ.2.1 w 24) (4 + j) := fun j hj => by
          rw [hz200.1 2061 (by decide), hz191.1 2061 (by decide), hz182.1 2061 (by decide), hz173.1 2061 (by decide), hz164.1 2061 (by decide), h131_3.1 2061 (by decide), hz126.1 2061 (by decide), hz118.1 2061 (by decide), hz110.1 2061 (by decide), hz102.1 2061 (by decide), hz94.1 2061 (by decide), hz86.1 2061 (by decide), hz77.1 2061 (by decide), hz69.1 2061 (by decide), hz61.1 2061 (by decide)]
          have q := CP_at (n := 4) hq53 (j := j) hj
          rw [hz45.1 2061 (by decide), zuI_nf (show (2061 : Nat) ≠ 1016 by decide), zuI_nf (show (2061 : Nat) ≠ 1015 by decide), zuI_nf (show (2061 : Nat) ≠ 1014 by decide), zuI_nf (show (2061 : Nat) ≠ 1013 by decide), zuI_nf (show (2061 : Nat) ≠ 1012 by decide)] at q
          exact q
        have k62 : ∀ j : Nat, j < 4 → G200.1 2062 (Γ.2.1 w 25) j = G.1 2062 (Γ.2.1 w 25) (4 + j) := fun j hj => by
          rw [hz200.1 2062 (by decide), hz191.1 2062 (by decide), hz182.1 2062 (by decide), hz173.1 2062 (by decide), hz164.1 2062 (by decide), h131_3.1 2062 (by decide), hz126.1 2062 (by decide), hz118.1 2062 (by decide), hz110.1 2062 (by decide), hz102.1 2062 (by decide), hz94.1 2062 (by decide), hz86.1 2062 (by decide), hz77.1 2062 (by decide), hz69.1 2062 (by decide)]
          have q := CP_at (n := 4) hq61 (j := j) hj
          rw [hz53.1 2062 (by decide), hz45.1 2062 (by decide), zuI_nf (show (2062 : Nat) ≠ 1016 by decide), zuI_nf (show (2062 : Nat) ≠ 1015 by decide), zuI_nf (show (2062 : Nat) ≠ 1014 by decide), zuI_nf (show (2062 : Nat) ≠ 1013 by decide), zuI_nf (show (2062 : Nat) ≠ 1012 by decide)] at q
          exact q
        have k63 : ∀ j : Nat, j < 5 → G200.1 2063 (Γ.2.1 w 26) j = G.1 2063 (Γ.2.1 w 26) (5 + j) := fun j hj => by
          rw [hz200.1 2063 (by decide), hz191.1 2063 (by decide), hz182.1 2063 (by decide), hz173.1 2063 (by decide), hz164.1 2063 (by decide), h131_3.1 2063 (by decide), hz126.1 2063 (by decide), hz118.1 2063 (by decide), hz110.1 2063 (by decide), hz102.1 2063 (by decide), hz94.1 2063 (by decide), hz86.1 2063 (by decide), hz77.1 2063 (by decide)]
          have q := CP_at (n := 5) hq69 (j := j) hj
          rw [hz61.1 2063 (by decide), hz53.1 2063 (by decide), hz45.1 2063 (by decide), zuI_nf (show (2063 : Nat) ≠ 1016 by decide), zuI_nf (show (2063 : Nat) ≠ 1015 by decide), zuI_nf (show (2063 : Nat) ≠ 1014 by decide), zuI_nf (show (2063 : Nat) ≠ 1013 by decide), zuI_nf (show (2063 : Nat) ≠ 1012 by decide)] at q
          exact q
        have k64 : ∀ j : Nat, j < 5 → G200.1 2064 (Γ.2.1 w 27) j = G.1 2064 (Γ.2.1 w 27) (5 + j) := fun j hj => by
          rw [hz200.1 2064 (by decide), hz191.1 2064 (by decide), hz182.1 2064 (by decide), hz173.1 2064 (by decide), hz164.1 2064 (by decide), h131_3.1 2064 (by decide), hz126.1 2064 (by decide), hz118.1 2064 (by decide), hz110.1 2064 (by decide), hz102.1 2064 (by decide), hz94.1 2064 (by decide), hz86.1 2064 (by decide)]
          have q := CP_at (n := 5) hq77 (j := j) hj
          rw [hz69.1 2064 (by decide), hz61.1 2064 (by decide), hz53.1 2064 (by decide), hz45.1 2064 (by decide), zuI_nf (show (2064 : Nat) ≠ 1016 by decide), zuI_nf (show (2064 : Nat) ≠ 1015 by decide), zuI_nf (show (2064 : Nat) ≠ 1014 by decide), zuI_nf (show (2064 : Nat) ≠ 1013 by decide), zuI_nf (show (2064 : Nat) ≠ 1012 by decide)] at q
          exact q
        have k65 : ∀ j : Nat, j < 20 → G200.1 2065 (Γ.2.1 w 28) j = G.1 2065 (Γ.2.1 w 28) (20 + j) := fun j hj => by
          rw [hz200.1 2065 (by decide), hz191.1 2065 (by decide), hz182.1 2065 (by decide), hz173.1 2065 (by decide), hz164.1 2065 (by decide), h131_3.1 2065 (by decide), hz126.1 2065 (by decide), hz118.1 2065 (by decide), hz110.1 2065 (by decide), hz102.1 2065 (by decide), hz94.1 2065 (by decide)]
          have q := CP_at (n := 20) hq86 (j := j) hj
          rw [hz77.1 2065 (by decide), hz69.1 2065 (by decide), hz61.1 2065 (by decide), hz53.1 2065 (by decide), hz45.1 2065 (by decide), zuI_nf (show (2065 : Nat) ≠ 1016 by decide), zuI_nf (show (2065 : Nat) ≠ 1015 by decide), zuI_nf (show (2065 : Nat) ≠ 1014 by decide), zuI_nf (show (2065 : Nat) ≠ 1013 by decide), zuI_nf (show (2065 : Nat) ≠ 1012 by decide)] at q
          exact q
        have k66 : ∀ j : Nat, j < 5 → G200.1 2066 (Γ.2.1 w 29) j = G.1 2066 (Γ.2.1 w 29) (5 + j) := fun j hj => by
          rw [hz200.1 2066 (by decide), hz191.1 2066 (by decide), hz182.1 2066 (by decide), hz173.1 2066 (by decide), hz164.1 2066 (by decide), h131_3.1 2066 (by decide), hz126.1 2066 (by decide), hz118.1 2066 (by decide), hz110.1 2066 (by decide), hz102.1 2066 (by decide)]
          have q := CP_at (n := 5) hq94 (j := j) hj
          rw [hz86.1 2066 (by decide), hz77.1 2066 (by decide), hz69.1 2066 (by decide), hz61.1 2066 (by decide), hz53.1 2066 (by decide), hz45.1 2066 (by decide), zuI_nf (show (2066 : Nat) ≠ 1016 by decide), zuI_nf (show (2066 : Nat) ≠ 1015 by decide), zuI_nf (show (2066 : Nat) ≠ 1014 by decide), zuI_nf (show (2066 : Nat) ≠ 1013 by decide), zuI_nf (show (2066 : Nat) ≠ 1012 by decide)] at q
          exact q
        have k67 : ∀ j : Nat, j < 5 → G200.1 2067 (Γ.2.1 w 30) j = G.1 2067 (Γ.2.1 w 30) (5 + j) := fun j hj => by
          rw [hz200.1 2067 (by decide), hz191.1 2067 (by decide), hz182.1 2067 (by decide), hz173.1 2067 (by decide), hz164.1 2067 (by decide), h131_3.1 2067 (by decide), hz126.1 2067 (by decide), hz118.1 2067 (by decide), hz110.1 2067 (by decide)]
          have q := CP_at (n := 5) hq102 (j := j) hj
          rw [hz94.1 2067 (by decide), hz86.1 2067 (by decide), hz77.1 2067 (by decide), hz69.1 2067 (by decide), hz61.1 2067 (by decide), hz53.1 2067 (by decide), hz45.1 2067 (by decide), zuI_nf (show (2067 : Nat) ≠ 1016 by decide), zuI_nf (show (2067 : Nat) ≠ 1015 by decide), zuI_nf (show (2067 : Nat) ≠ 1014 by decide), zuI_nf (show (2067 : Nat) ≠ 1013 by decide), zuI_nf (show (2067 : Nat) ≠ 1012 by decide)] at q
          exact q
        have k68 : ∀ j : Nat, j < 5 → G200.1 2068 (Γ.2.1 w 31) j = G.1 2068 (Γ.2.1 w 31) (5 + j) := fun j hj => by
          rw [hz200.1 2068 (by decide), hz191.1 2068 (by decide), hz182.1 2068 (by decide), hz173.1 2068 (by decide), hz164.1 2068 (by decide), h131_3.1 2068 (by decide), hz126.1 2068 (by decide), hz118.1 2068 (by decide)]
          have q := CP_at (n := 5) hq110 (j := j) hj
          rw [hz102.1 2068 (by decide), hz94.1 2068 (by decide), hz86.1 2068 (by decide), hz77.1 2068 (by decide), hz69.1 2068 (by decide), hz61.1 2068 (by decide), hz53.1 2068 (by decide), hz45.1 2068 (by decide), zuI_nf (show (2068 : Nat) ≠ 1016 by decide), zuI_nf (show (2068 : Nat) ≠ 1015 by decide), zuI_nf (show (2068 : Nat) ≠ 1014 by decide), zuI_nf (show (2068 : Nat) ≠ 1013 by decide), zuI_nf (show (2068 : Nat) ≠ 1012 by decide)] at q
          exact q
        have k69 : ∀ j : Nat, j < 5 → G200.1 2069 (Γ.2.1 w 32) j = G.1 2069 (Γ.2.1 w 32) (5 + j) := fun j hj => by
          rw [hz200.1 2069 (by decide), hz191.1 2069 (by decide), hz182.1 2069 (by decide), hz173.1 2069 (by decide), hz164.1 2069 (by decide), h131_3.1 2069 (by decide), hz126.1 2069 (by decide)]
          have q := CP_at (n := 5) hq118 (j := j) hj
          rw [hz110.1 2069 (by decide), hz102.1 2069 (by decide), hz94.1 2069 (by decide), hz86.1 2069 (by decide), hz77.1 2069 (by decide), hz69.1 2069 (by decide), hz61.1 2069 (by decide), hz53.1 2069 (by decide), hz45.1 2069 (by decide), zuI_nf (show (2069 : Nat) ≠ 1016 by decide), zuI_nf (show (2069 : Nat) ≠ 1015 by decide), zuI_nf (show (2069 : Nat) ≠ 1014 by decide), zuI_nf (show (2069 : Nat) ≠ 1013 by decide), zuI_nf (show (2069 : Nat) ≠ 1012 by decide)] at q
          exact q
        have k70 : ∀ j : Nat, j < 3 → G200.1 2070 (Γ.2.1 w 33) j = G.1 2070 (Γ.2.1 w 33) (3 + j) := fun j hj => by
          rw [hz200.1 2070 (by decide), hz191.1 2070 (by decide), hz182.1 2070 (by decide), hz173.1 2070 (by decide), hz164.1 2070 (by decide), h131_3.1 2070 (by decide)]
          have q := CP_at (n := 3) hq126 (j := j) hj
          rw [hz118.1 2070 (by decide), hz110.1 2070 (by decide), hz102.1 2070 (by decide), hz94.1 2070 (by decide), hz86.1 2070 (by decide), hz77.1 2070 (by decide), hz69.1 2070 (by decide), hz61.1 2070 (by decide), hz53.1 2070 (by decide), hz45.1 2070 (by decide), zuI_nf (show (2070 : Nat) ≠ 1016 by decide), zuI_nf (show (2070 : Nat) ≠ 1015 by decide), zuI_nf (show (2070 : Nat) ≠ 1014 by decide), zuI_nf (show (2070 : Nat) ≠ 1013 by decide), zuI_nf (show (2070 : Nat) ≠ 1012 by decide)] at q
          exact q
        have k72 : ∀ j : Nat, j < 7 → G200.1 2072 (Γ.2.1 w 35) j = G.1 2072 (Γ.2.1 w 35) (7 + j) := fun j hj => by
          rw [hz200.1 2072 (by decide), hz191.1 2072 (by decide), hz182.1 2072 (by decide), hz173.1 2072 (by decide)]
          have q := CP_at (n := 7) hq164 (j := j) hj
          rw [h131_3.1 2072 (by decide), hz126.1 2072 (by decide), hz118.1 2072 (by decide), hz110.1 2072 (by decide), hz102.1 2072 (by decide), hz94.1 2072 (by decide), hz86.1 2072 (by decide), hz77.1 2072 (by decide), hz69.1 2072 (by decide), hz61.1 2072 (by decide), hz53.1 2072 (by decide), hz45.1 2072 (by decide), zuI_nf (show (2072 : Nat) ≠ 1016 by decide), zuI_nf (show (2072 : Nat) ≠ 1015 by decide), zuI_nf (show (2072 : Nat) ≠ 1014 by decide), zuI_nf (show (2072 : Nat) ≠ 1013 by decide), zuI_nf (show (2072 : Nat) ≠ 1012 by decide)] at q
          exact q
        have k73 : ∀ j : Nat, j < 7 → G200.1 2073 (Γ.2.1 w 36) j = G.1 2073 (Γ.2.1 w 36) (7 + j) := fun j hj => by
          rw [hz200.1 2073 (by decide), hz191.1 2073 (by decide), hz182.1 2073 (by decide)]
          have q := CP_at (n := 7) hq173 (j := j) hj
          rw [hz164.1 2073 (by decide), h131_3.1 2073 (by decide), hz126.1 2073 (by decide), hz118.1 2073 (by decide), hz110.1 2073 (by decide), hz102.1 2073 (by decide), hz94.1 2073 (by decide), hz86.1 2073 (by decide), hz77.1 2073 (by decide), hz69.1 2073 (by decide), hz61.1 2073 (by decide), hz53.1 2073 (by decide), hz45.1 2073 (by decide), zuI_nf (show (2073 : Nat) ≠ 1016 by decide), zuI_nf (show (2073 : Nat) ≠ 1015 by decide), zuI_nf (show (2073 : Nat) ≠ 1014 by decide), zuI_nf (show (2073 : Nat) ≠ 1013 by decide), zuI_nf (show (2073 : Nat) ≠ 1012 by decide)] at q
          exact q
        have k74 : ∀ j : Nat, j < 64 → G200.1 2074 (Γ.2.1 w 37) j = G.1 2074 (Γ.2.1 w 37) (64 + j) := fun j hj => by
          rw [hz200.1 2074 (by decide), hz191.1 2074 (by decide)]
          have q := CP_at (n := 64) hq182 (j := j) hj
          rw [hz173.1 2074 (by decide), hz164.1 2074 (by decide), h131_3.1 2074 (by decide), hz126.1 2074 (by decide), hz118.1 2074 (by decide), hz110.1 2074 (by decide), hz102.1 2074 (by decide), hz94.1 2074 (by decide), hz86.1 2074 (by decide), hz77.1 2074 (by decide), hz69.1 2074 (by decide), hz61.1 2074 (by decide), hz53.1 2074 (by decide), hz45.1 2074 (by decide), zuI_nf (show (2074 : Nat) ≠ 1016 by decide), zuI_nf (show (2074 : Nat) ≠ 1015 by decide), zuI_nf (show (2074 : Nat) ≠ 1014 by decide), zuI_nf (show (2074 : Nat) ≠ 1013 by decide), zuI_nf (show (2074 : Nat) ≠ 1012 by decide)] at q
          exact q
        have k75 : ∀ j : Nat, j < 64 → G200.1 2075 (Γ.2.1 w 38) j = G.1 2075 (Γ.2.1 w 38) (64 + j) := fun j hj => by
          rw [hz200.1 2075 (by decide)]
          have q := CP_at (n := 64) hq191 (j := j) hj
          rw [hz182.1 2075 (by decide), hz173.1 2075 (by decide), hz164.1 2075 (by decide), h131_3.1 2075 (by decide), hz126.1 2075 (by decide), hz118.1 2075 (by decide), hz110.1 2075 (by decide), hz102.1 2075 (by decide), hz94.1 2075 (by decide), hz86.1 2075 (by decide), hz77.1 2075 (by decide), hz69.1 2075 (by decide), hz61.1 2075 (by decide), hz53.1 2075 (by decide), hz45.1 2075 (by decide), zuI_nf (show (2075 : Nat) ≠ 1016 by decide), zuI_nf (show (2075 : Nat) ≠ 1015 by decide), zuI_nf (show (2075 : Nat) ≠ 1014 by decide), zuI_nf (show (2075 : Nat) ≠ 1013 by decide), zuI_nf (show (2075 : Nat) ≠ 1012 by decide)] at q
          exact q
        have k76 : ∀ j : Nat, j < 64 → G200.1 2076 (Γ.2.1 w 39) j = G.1 2076 (Γ.2.1 w 39) (64 + j) := fun j hj => by
          have q := CP_at (n := 64) hq200 (j := j) hj
          rw [hz191.1 2076 (by decide), hz182.1 2076 (by decide), hz173.1 2076 (by decide), hz164.1 2076 (by decide), h131_3.1 2076 (by decide), hz126.1 2076 (by decide), hz118.1 2076 (by decide), hz110.1 2076 (by decide), hz102.1 2076 (by decide), hz94.1 2076 (by decide), hz86.1 2076 (by decide), hz77.1 2076 (by decide), hz69.1 2076 (by decide), hz61.1 2076 (by decide), hz53.1 2076 (by decide), hz45.1 2076 (by decide), zuI_nf (show (2076 : Nat) ≠ 1016 by decide), zuI_nf (show (2076 : Nat) ≠ 1015 by decide), zuI_nf (show (2076 : Nat) ≠ 1014 by decide), zuI_nf (show (2076 : Nat) ≠ 1013 by decide), zuI_nf (show (2076 : Nat) ≠ 1012 by decide)] at q
          exact q
        have k71 : ∀ j : Nat, j < 7 → G200.1 2071 (Γ.2.1 w 34) j = G.1 2071 (Γ.2.1 w 34) (7 + j) := fun j hj => by
          rw [e71z]
          exact CP_at (n := 7) h131_2 (j := j) hj
        have s1012 : G200.1 1012 w 0 = G.1 1017 w 0 := by
          rw [hz200.1 1012 (by decide), hz191.1 1012 (by decide), hz182.1 1012 (by decide), hz173.1 1012 (by decide), hz164.1 1012 (by decide), h131_3.1 1012 (by decide), hz126.1 1012 (by decide), hz118.1 1012 (by decide), hz110.1 1012 (by decide), hz102.1 1012 (by decide), hz94.1 1012 (by decide), hz86.1 1012 (by decide), hz77.1 1012 (by decide), hz69.1 1012 (by decide), hz61.1 1012 (by decide), hz53.1 1012 (by decide), hz45.1 1012 (by decide)]
          simp only [zuI_1, zuI_2, zuJ_1, zuJ_2, zuJ_3, zuP_1, zuP_2, zuP_3, zuC_1, zuC_2, reduceIte, Nat.reduceEqDiff, false_and, and_false, true_and, and_true, and_self, or_true, true_or, or_false, false_or]
          omega
        have s1013 : G200.1 1013 w 0 = G.1 1018 w 0 := by
          rw [hz200.1 1013 (by decide), hz191.1 1013 (by decide), hz182.1 1013 (by decide), hz173.1 1013 (by decide), hz164.1 1013 (by decide), h131_3.1 1013 (by decide), hz126.1 1013 (by decide), hz118.1 1013 (by decide), hz110.1 1013 (by decide), hz102.1 1013 (by decide), hz94.1 1013 (by decide), hz86.1 1013 (by decide), hz77.1 1013 (by decide), hz69.1 1013 (by decide), hz61.1 1013 (by decide), hz53.1 1013 (by decide), hz45.1 1013 (by decide)]
          simp only [zuI_1, zuI_2, zuJ_1, zuJ_2, zuJ_3, zuP_1, zuP_2, zuP_3, zuC_1, zuC_2, reduceIte, Nat.reduceEqDiff, false_and, and_false, true_and, and_true, and_self, or_true, true_or, or_false, false_or]
          omega
        have s1014 : G200.1 1014 w 0 = G.1 1019 w 0 := by
          rw [hz200.1 1014 (by decide), hz191.1 1014 (by decide), hz182.1 1014 (by decide), hz173.1 1014 (by decide), hz164.1 1014 (by decide), h131_3.1 1014 (by decide), hz126.1 1014 (by decide), hz118.1 1014 (by decide), hz110.1 1014 (by decide), hz102.1 1014 (by decide), hz94.1 1014 (by decide), hz86.1 1014 (by decide), hz77.1 1014 (by decide), hz69.1 1014 (by decide), hz61.1 1014 (by decide), hz53.1 1014 (by decide), hz45.1 1014 (by decide)]
          simp only [zuI_1, zuI_2, zuJ_1, zuJ_2, zuJ_3, zuP_1, zuP_2, zuP_3, zuC_1, zuC_2, reduceIte, Nat.reduceEqDiff, false_and, and_false, true_and, and_true, and_self, or_true, true_or, or_false, false_or]
          omega
        have s1015 : G200.1 1015 w 0 = G.1 1020 w 0 := by
          rw [hz200.1 1015 (by decide), hz191.1 1015 (by decide), hz182.1 1015 (by decide), hz173.1 1015 (by decide), hz164.1 1015 (by decide), h131_3.1 1015 (by decide), hz126.1 1015 (by decide), hz118.1 1015 (by decide), hz110.1 1015 (by decide), hz102.1 1015 (by decide), hz94.1 1015 (by decide), hz86.1 1015 (by decide), hz77.1 1015 (by decide), hz69.1 1015 (by decide), hz61.1 1015 (by decide), hz53.1 1015 (by decide), hz45.1 1015 (by decide)]
          simp only [zuI_1, zuI_2, zuJ_1, zuJ_2, zuJ_3, zuP_1, zuP_2, zuP_3, zuC_1, zuC_2, reduceIte, Nat.reduceEqDiff, false_and, and_false, true_and, and_true, and_self, or_true, true_or, or_false, false_or]
          omega
        have s1016 : G200.1 1016 w 0 = G.1 1021 w 0 := by
          rw [hz200.1 1016 (by decide), hz191.1 1016 (by decide), hz182.1 1016 (by decide), hz173.1 1016 (by decide), hz164.1 1016 (by decide), h131_3.1 1016 (by decide), hz126.1 1016 (by decide), hz118.1 1016 (by decide), hz110.1 1016 (by decide), hz102.1 1016 (by decide), hz94.1 1016 (by decide), hz86.1 1016 (by decide), hz77.1 1016 (by decide), hz69.1 1016 (by decide), hz61.1 1016 (by decide), hz53.1 1016 (by decide), hz45.1 1016 (by decide)]
          simp only [zuI_1, zuI_2, zuJ_1, zuJ_2, zuJ_3, zuP_1, zuP_2, zuP_3, zuC_1, zuC_2, reduceIte, Nat.reduceEqDiff, false_and, and_false, true_and, and_true, and_self, or_true, true_or, or_false, false_or]
          omega
        have hkp : KPT Γ w G G200 := ⟨s1012, s1013, s1014, s1015, s1016, k59, k61, k62, k63, k64, k65, k66, k67, k68, k69, k70, k71, k72, k73, k74, k75, k76⟩
        have hk00 := hk0 _ hkp
        refine zs_aload_n (pc := 203) C dX9_keepText_203 rfl ?_
        refine zVv0 (pc := 204) C dX9_keepText_204 v_X9_277 (c_X9_beginW (A := A) hX hk00 h80) (by decide) (by decide) ⟨Nat.zero_le _, Nat.zero_le _⟩ (Nat.le_of_ble_eq_true rfl) (fun G204 hp204 => ?_)
        obtain ⟨hz204, hq204⟩ := hp204
        have e71 : G204.1 2071 = G1.1 2071 := by rw [hz204.1 2071 (by decide), hz200.1 2071 (by decide), hz191.1 2071 (by decide), hz182.1 2071 (by decide), hz173.1 2071 (by decide), hz164.1 2071 (by decide)]
        have e73 : G204.1 2073 = G173.1 2073 := by rw [hz204.1 2073 (by decide), hz200.1 2073 (by decide), hz191.1 2073 (by decide), hz182.1 2073 (by decide)]
        have e74 : G204.1 2074 = G182.1 2074 := by rw [hz204.1 2074 (by decide), hz200.1 2074 (by decide), hz191.1 2074 (by decide)]
        have e75 : G204.1 2075 = G191.1 2075 := by rw [hz204.1 2075 (by decide), hz200.1 2075 (by decide)]
        have e76 : G204.1 2076 = G200.1 2076 := by rw [hz204.1 2076 (by decide)]
        have s73 : G164.1 2073 = G.1 2073 := by rw [hz164.1 2073 (by decide), h131_1.1 2073 (by decide)]
        have s74 : G173.1 2074 = G.1 2074 := by rw [hz173.1 2074 (by decide), hz164.1 2074 (by decide), h131_1.1 2074 (by decide)]
        have s75 : G182.1 2075 = G.1 2075 := by rw [hz182.1 2075 (by decide), hz173.1 2075 (by decide), hz164.1 2075 (by decide), h131_1.1 2075 (by decide)]
        have s76 : G191.1 2076 = G.1 2076 := by rw [hz191.1 2076 (by decide), hz182.1 2076 (by decide), hz173.1 2076 (by decide), hz164.1 2076 (by decide), h131_1.1 2076 (by decide)]
        rw [s73] at hq173
        rw [s74] at hq182
        rw [s75] at hq191
        rw [s76] at hq200
        have hMI : MI Γ w G204 := MI_keep hM hC (by rw [e71]; exact h131_2) (by rw [e73]; exact hq173) (by rw [e74]; exact hq182) (by rw [e75]; exact hq191) (by rw [e76]; exact hq200)
        have hk9 : kR Γ w A G204 := kR_sm hz204 (by decide) hk00
        obtain ⟨bW, b84, b86, bJ⟩ := hq204
        exact zs_vret (pc := 207) C hr hlk dX9_keepText_207 ⟨by repeat (first | exact zsm_rf | assumption | refine zsm_C (by decide) ?_ | refine zsm_I (by decide) ?_ | refine zsm_J ?_ | refine zsm_c (by assumption) (by decide) ?_), ⟨hMI, hk9, bW, b84, b86⟩⟩
      · skip
        refine zs_aload_n (pc := 137) C dX9_keepText_137 rfl ?_
        refine zs_getf (pc := 138) C dX9_keepText_138 w_X9_57 f_10_34 (by decide) ?_
        refine zs_iload_n (pc := 141) C dX9_keepText_141 rfl ?_
        refine zs_aload_n (pc := 142) C dX9_keepText_142 rfl ?_
        refine zs_getf (pc := 143) C dX9_keepText_143 w_X9_57 f_10_34 (by decide) ?_
        refine zs_bipush (pc := 146) C dX9_keepText_146 (by decide) (by decide) ?_
        refine zs_iload_n (pc := 148) C dX9_keepText_148 rfl ?_
        first | refine zs_iadd (pc := 149) C dX9_keepText_149 (by omega) ?_ | refine zs_iaddF (pc := 149) C dX9_keepText_149 (fun z149 hz1491 hz1492 => ?_)
        refine zs_zald (r := 2071) (pc := 150) C dX9_keepText_150 a_71 (by decide) (by omega) rfl (r_2071 _) (fun v150 e150 l150 u150 => ?_)
        refine zs_zast (r := 2071) (pc := 151) C dX9_keepText_151 a_71 (by decide) (by omega) rfl (r_2071 _) (by omega) (by omega) ?_
        first | refine zs_iinc (pc := 152) C dX9_keepText_152 rfl (by decide) (by omega) ?_ | refine zs_iincF (pc := 152) C dX9_keepText_152 rfl (by decide) (fun z152 hz1521 hz1522 => ?_)
        dsimp only [zset, zclr, znone]
        refine zs_goto (tgt := 131) (pc := 155) C dX9_keepText_155 (by decide) ?_
        exact zs_wk (ih131 _ _ (by omega) (by repeat (first | exact zsm_rf | assumption | refine zsm_C (by decide) ?_ | refine zsm_I (by decide) ?_ | refine zsm_J ?_ | refine zsm_c (by assumption) (by decide) ?_)) (CP_s h131_2 (by omega) (by omega) e150) (by repeat (first | exact zsm_rf | assumption | refine zsm_C (by decide) ?_ | refine zsm_I (by decide) ?_ | refine zsm_J ?_ | refine zsm_c (by assumption) (by decide) ?_)) (by first | omega | (simp only [zuI_1, zuI_2, zuJ_1, zuJ_2, zuJ_3, zuP_1, zuP_2, zuP_3, zuC_1, zuC_2, reduceIte, Nat.reduceEqDiff, false_and, and_false, true_and, and_true, and_self, or_true, true_or, or_false, false_or]; omega))) (zwk_s rfl (zwk_s rfl zwk_0))
  exact zs_wk (L131 _ _ _ (by omega) (by repeat (first | exact zsm_rf | assumption | refine zsm_C (by decide) ?_ | refine zsm_I (by decide) ?_ | refine zsm_J ?_ | refine zsm_c (by assumption) (by decide) ?_)) (by rw [hz126.1 2071 (by decide), hz118.1 2071 (by decide), hz110.1 2071 (by decide), hz102.1 2071 (by decide), hz94.1 2071 (by decide), hz86.1 2071 (by decide), hz77.1 2071 (by decide), hz69.1 2071 (by decide), hz61.1 2071 (by decide), hz53.1 2071 (by decide), hz45.1 2071 (by decide), zuI_ne (show (2071 : Nat) ≠ 1016 by decide), zuI_ne (show (2071 : Nat) ≠ 1015 by decide), zuI_ne (show (2071 : Nat) ≠ 1014 by decide), zuI_ne (show (2071 : Nat) ≠ 1013 by decide), zuI_ne (show (2071 : Nat) ≠ 1012 by decide)]; exact CP_0) zsm_rf (Nat.lt_succ_self _)) (zwk_s rfl (zwk_s rfl zwk_0))

set_option maxHeartbeats 4000000 in
set_option maxRecDepth 100000 in
theorem c_X9_textW {l : Launch} {Γ : zΓ} {G : zH} {w : Nat} {k : Int} {A : aS}  (hX : zXs Γ) (hM : MI Γ w G)(hA : sCl A) : zMet l Γ yX9_text cX9_text 3 (some .int) 6 [zr 10 w, zi k] G (zpi (fun x G' => zsm [1007, 1008, 1009, 1010, 1004, 1005, 1011, 2063, 2064, 2065, 1018, 2066, 2067, 2068, 2069, 1019, 2074, 2075, 2076, 2078, 1043, 1021, 2077, 1042, 1044, 1045, 1046, 1047, 2071, 2072, 2073, 2061, 2062, 1017, 2070, 1020, 2060, 2059, 1012, 1013, 1014, 1015, 1016, 2081, 2082, 2083, 2084, 2085, 2086, 2087, 2088, 2089, 2090, 1083, 1084, 1086, 1001, 1002, 1006] G G' ∧ ((MI Γ w G' ∧ (0 ≤ k ∧ k ≤ G.1 1001 w 0 → G'.1 1001 w 0 = 0 ∧ G'.1 1004 w 0 = (sLN (G.1 2057 (Γ.2.1 w 0)) k 700 (sNext (G.1 2057 (Γ.2.1 w 0)) k A)) 1 0 ∧ G'.1 1005 w 0 = (sLN (G.1 2057 (Γ.2.1 w 0)) k 700 (sNext (G.1 2057 (Γ.2.1 w 0)) k A)) 2 0 ∧ x = (if (sLN (G.1 2057 (Γ.2.1 w 0)) k 700 (sNext (G.1 2057 (Γ.2.1 w 0)) k A)) 1 0 = 0 then sLC (G.1 2057 (Γ.2.1 w 0)) k 700 0 (sNext (G.1 2057 (Γ.2.1 w 0)) k A) else -1)) ∧ (¬ (0 ≤ k ∧ k ≤ G.1 1001 w 0) → x = -2 ∧ G'.1 1001 w 0 = G.1 1001 w 0 ∧ G'.1 1004 w 0 = G.1 1004 w 0 ∧ G'.1 1005 w 0 = G.1 1005 w 0)) ∧ ((0 ≤ k ∧ k ≤ G.1 1001 w 0 ∧ (sLN (G.1 2057 (Γ.2.1 w 0)) k 700 (sNext (G.1 2057 (Γ.2.1 w 0)) k A)) 1 0 = 0 → kR Γ w (sLN (G.1 2057 (Γ.2.1 w 0)) k 700 (sNext (G.1 2057 (Γ.2.1 w 0)) k A)) G' ∧ (∀ W : aS, wBeg (sLN (G.1 2057 (Γ.2.1 w 0)) k 700 (sNext (G.1 2057 (Γ.2.1 w 0)) k A)) W → rW Γ w 0 W G' ∧ rS Γ w W G' ∧ rD w W G') ∧ G'.1 1084 w 0 = 0 ∧ G'.1 1086 w 0 = 0) ∧ (¬ (0 ≤ k ∧ k ≤ G.1 1001 w 0 ∧ (sLN (G.1 2057 (Γ.2.1 w 0)) k 700 (sNext (G.1 2057 (Γ.2.1 w 0)) k A)) 1 0 = 0) → kS w G G' ∧ (∀ r ∈ [2081, 2082, 2083, 2084, 2085, 2086, 2087, 2088, 2089, 2090, 2093, 2094, 2091, 2092, 2095, 2096, 2097, 2098, 2099, 2100, 1083, 1084, 1086, 1087, 2105, 2106, 2107], G'.1 r = G.1 r) ∧ G'.2.1 = G.2.1))))) := by
  refine zMet_of RX9 hX (by decide) rfl (Nat.le_of_ble_eq_true rfl) ?_
  intro p e s m args below meth c C hr hlk
  show Z p l e (zrm 6) s m args below meth c Γ 3 0 0 (MQ below (zQc Γ (zpi (fun x G' => zsm [1007, 1008, 1009, 1010, 1004, 1005, 1011, 2063, 2064, 2065, 1018, 2066, 2067, 2068, 2069, 1019, 2074, 2075, 2076, 2078, 1043, 1021, 2077, 1042, 1044, 1045, 1046, 1047, 2071, 2072, 2073, 2061, 2062, 1017, 2070, 1020, 2060, 2059, 1012, 1013, 1014, 1015, 1016, 2081, 2082, 2083, 2084, 2085, 2086, 2087, 2088, 2089, 2090, 1083, 1084, 1086, 1001, 1002, 1006] G G' ∧ ((MI Γ w G' ∧ (0 ≤ k ∧ k ≤ G.1 1001 w 0 → G'.1 1001 w 0 = 0 ∧ G'.1 1004 w 0 = (sLN (G.1 2057 (Γ.2.1 w 0)) k 700 (sNext (G.1 2057 (Γ.2.1 w 0)) k A)) 1 0 ∧ G'.1 1005 w 0 = (sLN (G.1 2057 (Γ.2.1 w 0)) k 700 (sNext (G.1 2057 (Γ.2.1 w 0)) k A)) 2 0 ∧ x = (if (sLN (G.1 2057 (Γ.2.1 w 0)) k 700 (sNext (G.1 2057 (Γ.2.1 w 0)) k A)) 1 0 = 0 then sLC (G.1 2057 (Γ.2.1 w 0)) k 700 0 (sNext (G.1 2057 (Γ.2.1 w 0)) k A) else -1)) ∧ (¬ (0 ≤ k ∧ k ≤ G.1 1001 w 0) → x = -2 ∧ G'.1 1001 w 0 = G.1 1001 w 0 ∧ G'.1 1004 w 0 = G.1 1004 w 0 ∧ G'.1 1005 w 0 = G.1 1005 w 0)) ∧ ((0 ≤ k ∧ k ≤ G.1 1001 w 0 ∧ (sLN (G.1 2057 (Γ.2.1 w 0)) k 700 (sNext (G.1 2057 (Γ.2.1 w 0)) k A)) 1 0 = 0 → kR Γ w (sLN (G.1 2057 (Γ.2.1 w 0)) k 700 (sNext (G.1 2057 (Γ.2.1 w 0)) k A)) G' ∧ (∀ W : aS, wBeg (sLN (G.1 2057 (Γ.2.1 w 0)) k 700 (sNext (G.1 2057 (Γ.2.1 w 0)) k A)) W → rW Γ w 0 W G' ∧ rS Γ w W G' ∧ rD w W G') ∧ G'.1 1084 w 0 = 0 ∧ G'.1 1086 w 0 = 0) ∧ (¬ (0 ≤ k ∧ k ≤ G.1 1001 w 0 ∧ (sLN (G.1 2057 (Γ.2.1 w 0)) k 700 (sNext (G.1 2057 (Γ.2.1 w 0)) k A)) 1 0 = 0) → kS w G G' ∧ (∀ r ∈ [2081, 2082, 2083, 2084, 2085, 2086, 2087, 2088, 2089, 2090, 2093, 2094, 2091, 2092, 2095, 2096, 2097, 2098, 2099, 2100, 1083, 1084, 1086, 1087, 2105, 2106, 2107], G'.1 r = G.1 r) ∧ G'.2.1 = G.2.1)))))) args s 0 0 (zA Γ)) 0 [some (zr 10 w), some (zi k), none] [] G
  refine zs_loc 1 rfl (fun ha1 hb1 => ?_)
  refine zs_good (fun hGdy => ?_)
  have hby_1001 := hGdy.1 1001 w 0
  rw [r_1001] at hby_1001
  refine zs_aload_n (pc := 0) C dX9_text_0 rfl ?_
  refine zs_iconst (pc := 1) C dX9_text_1 (by decide) ?_
  refine zs_puti (r := 1002) (pc := 2) C dX9_text_2 w_X9_178 f_10_2 rfl (r_1002 0) (by omega) ?_
  refine zs_iload_n (pc := 5) C dX9_text_5 rfl ?_
  refine zs_if_lt (tgt := 17) (pc := 6) C dX9_text_6 (by decide) (fun h6 => ?_) (fun h6 => ?_)
  · skip
    refine zs_bipush (pc := 17) C dX9_text_17 (by decide) (by decide) ?_
    exact zs_iret (pc := 19) C hr hlk dX9_text_19 ⟨by repeat (first | exact zsm_rf | assumption | refine zsm_C (by decide) ?_ | refine zsm_I (by decide) ?_ | refine zsm_J ?_ | refine zsm_c (by assumption) (by decide) ?_), ⟨⟨(by repeat (first | assumption | refine MI_I (by decide) ?_ | refine MI_J ?_ | refine MI_sm (by assumption) (by decide) ?_ | refine MI_sn (by assumption) (by decide) ?_)), fun q => by omega, fun _ => ⟨rfl, by simp only [zuI_1, zuI_2, zuJ_1, zuJ_2, zuJ_3, zuP_1, zuP_2, zuP_3, zuC_1, zuC_2, reduceIte, Nat.reduceEqDiff, false_and, and_false, true_and, and_true, and_self, or_true, true_or, or_false, false_or], by simp only [zuI_1, zuI_2, zuJ_1, zuJ_2, zuJ_3, zuP_1, zuP_2, zuP_3, zuC_1, zuC_2, reduceIte, Nat.reduceEqDiff, false_and, and_false, true_and, and_true, and_self, or_true, true_or, or_false, false_or], by simp only [zuI_1, zuI_2, zuJ_1, zuJ_2, zuJ_3, zuP_1, zuP_2, zuP_3, zuC_1, zuC_2, reduceIte, Nat.reduceEqDiff, false_and, and_false, true_and, and_true, and_self, or_true, true_or, or_false, false_or]⟩⟩, (by have fr : zsm [1002] G _ := (zsm_I (by decide) zsm_rf : zsm [1002] G (zuI G 1002 w 0 0)); refine ⟨fun q => (by exfalso; omega), fun _ => ⟨⟨(show LJr G (zuI G 1002 w 0 0) from (by with_reducible repeat (first | exact LJr_rf | assumption | refine LJr_I (h := 0) (by decide) (Nat.zero_le _) ?_ | refine LJr_I (h := 3) (by decide) (by omega) ?_ | refine LJr_I (h := 4) (by decide) (by omega) ?_ | refine LJr_I (h := 5) (by decide) (by omega) ?_ | refine LJr_I (h := 7) (by decide) (by omega) ?_ | refine LJr_I (h := 20) (by decide) (by omega) ?_ | refine LJr_I (h := 64) (by decide) (by omega) ?_ | refine LJr_c (by assumption) ?_))).1, ?_, ?_, ?_, ?_, ?_⟩, fun r hr => fr.1 r ((show ∀ r ∈ [2081, 2082, 2083, 2084, 2085, 2086, 2087, 2088, 2089, 2090, 2093, 2094, 2091, 2092, 2095, 2096, 2097, 2098, 2099, 2100, 1083, 1084, 1086, 1087, 2105, 2106, 2107], r ∉ [1002] by decide) r hr), rfl⟩⟩ <;> simp only [zuI_1, zuI_2, zuJ_1, zuJ_2, zuJ_3, zuP_1, zuP_2, zuP_3, zuC_1, zuC_2, reduceIte, Nat.reduceEqDiff, false_and, and_false, true_and, and_true, and_self, or_true, true_or, or_false, false_or])⟩⟩
  · skip
    refine zs_iload_n (pc := 9) C dX9_text_9 rfl ?_
    refine zs_aload_n (pc := 10) C dX9_text_10 rfl ?_
    refine zs_geti (r := 1001) (pc := 11) C dX9_text_11 w_X9_181 f_10_1 rfl (r_1001 0) (fun v11 e11 l11 u11 => ?_)
    try simp only [zuI_1, zuI_2, zuJ_1, zuJ_2, zuJ_3, zuP_1, zuP_2, zuP_3, zuC_1, zuC_2, reduceIte, Nat.reduceEqDiff, false_and, and_false, true_and, and_true, and_self, or_true, true_or, or_false, false_or] at e11
    refine zs_icmp_le (tgt := 20) (pc := 14) C dX9_text_14 (by decide) (fun h14 => ?_) (fun h14 => ?_)
    · skip
      refine zs_aload_n (pc := 20) C dX9_text_20 rfl ?_
      refine zs_iload_n (pc := 21) C dX9_text_21 rfl ?_
      refine zs_puti (r := 1006) (pc := 22) C dX9_text_22 w_X9_190 f_10_6 rfl (r_1006 0) (by omega) ?_
      refine zs_aload_n (pc := 25) C dX9_text_25 rfl ?_
      refine zs_iconst (pc := 26) C dX9_text_26 (by decide) ?_
      refine zs_puti (r := 1001) (pc := 27) C dX9_text_27 w_X9_181 f_10_1 rfl (r_1001 0) (by omega) ?_
      refine zs_aload_n (pc := 30) C dX9_text_30 rfl ?_
      refine zs_iconst (pc := 31) C dX9_text_31 (by decide) ?_
      refine zs_puti (r := 1004) (pc := 32) C dX9_text_32 w_X9_184 f_10_4 rfl (r_1004 0) (by omega) ?_
      refine zs_aload_n (pc := 35) C dX9_text_35 rfl ?_
      refine zs_iconst (pc := 36) C dX9_text_36 (by decide) ?_
      refine zs_puti (r := 1005) (pc := 37) C dX9_text_37 w_X9_16 f_10_5 rfl (r_1005 0) (by omega) ?_
      refine zs_aload_n (pc := 40) C dX9_text_40 rfl ?_
      refine zs_iconst (pc := 41) C dX9_text_41 (by decide) ?_
      refine zs_puti (r := 1007) (pc := 42) C dX9_text_42 w_X9_193 f_10_7 rfl (r_1007 0) (by omega) ?_
      refine zs_aload_n (pc := 45) C dX9_text_45 rfl ?_
      refine zVv0 (pc := 46) C dX9_text_46 v_X9_172 (c_X9_plainY hX (by repeat (first | assumption | refine MI_I (by decide) ?_ | refine MI_J ?_ | refine MI_sm (by assumption) (by decide) ?_ | refine MI_sn (by assumption) (by decide) ?_))) (by decide) (by decide) ⟨Nat.zero_le _, Nat.zero_le _⟩ (Nat.le_of_ble_eq_true rfl) (fun G46 hp46 => ?_)
      obtain ⟨hz46, lo46, hq46⟩ := hp46
      try simp only [zuI_1, zuI_2, zuJ_1, zuJ_2, zuJ_3, zuP_1, zuP_2, zuP_3, zuC_1, zuC_2, reduceIte, Nat.reduceEqDiff, false_and, and_false, true_and, and_true, and_self, or_true, true_or, or_false, false_or] at hq46
      have tr46_1001 := zsm_at hz46 1001 w 0 (by decide)
      try simp only [zuI_1, zuI_2, zuJ_1, zuJ_2, zuJ_3, zuP_1, zuP_2, zuP_3, zuC_1, zuC_2, reduceIte, Nat.reduceEqDiff, false_and, and_false, true_and, and_true, and_self, or_true, true_or, or_false, false_or] at tr46_1001
      refine zs_heap (P := fun G2 => zsm [1007, 1008, 1009, 1010, 1004, 1005, 1011, 2063, 2064, 2065, 1018, 2066, 2067, 2068, 2069, 1019, 2074, 2075, 2076, 2078, 1043, 1021, 2077, 1042, 1044, 1045, 1046, 1047, 2071, 2072, 2073, 2061, 2062, 1017, 2070, 1020, 2060, 2059, 1001, 1002, 1006] G G2 ∧ LJr G G2 ∧ MI Γ w G2 ∧ RC Γ w G2 ∧ gZ Γ w G2 ∧ G2.1 1006 w 0 = k ∧ G2.1 1007 w 0 = 0 ∧ G2.1 1004 w 0 = 0 ∧ G2.1 1005 w 0 = -1 ∧ G2.1 1001 w 0 = 0) ⟨(by repeat (first | exact zsm_rf | assumption | refine zsm_C (by decide) ?_ | refine zsm_I (by decide) ?_ | refine zsm_J ?_ | refine zsm_c (by assumption) (by decide) ?_)), (by with_reducible repeat (first | exact LJr_rf | assumption | refine LJr_I (h := 0) (by decide) (Nat.zero_le _) ?_ | refine LJr_I (h := 3) (by decide) (by omega) ?_ | refine LJr_I (h := 4) (by decide) (by omega) ?_ | refine LJr_I (h := 5) (by decide) (by omega) ?_ | refine LJr_I (h := 7) (by decide) (by omega) ?_ | refine LJr_I (h := 20) (by decide) (by omega) ?_ | refine LJr_I (h := 64) (by decide) (by omega) ?_ | refine LJr_c (by assumption) ?_)), hq46.1, hq46.2.1, hq46.2.2, ?_, ?_, ?_, ?_, ?_⟩ (fun G2 hG2 => ?_)
      · have q := zsm_at hz46 1006 w 0 (by decide); simp only [zuI_1, zuI_2, zuJ_1, zuJ_2, zuJ_3, zuP_1, zuP_2, zuP_3, zuC_1, zuC_2, reduceIte, Nat.reduceEqDiff, false_and, and_false, true_and, and_true, and_self, or_true, true_or, or_false, false_or] at q; omega
      · have q := zsm_at hz46 1007 w 0 (by decide); simp only [zuI_1, zuI_2, zuJ_1, zuJ_2, zuJ_3, zuP_1, zuP_2, zuP_3, zuC_1, zuC_2, reduceIte, Nat.reduceEqDiff, false_and, and_false, true_and, and_true, and_self, or_true, true_or, or_false, false_or] at q; omega
      · have q := zsm_at hz46 1004 w 0 (by decide); simp only [zuI_1, zuI_2, zuJ_1, zuJ_2, zuJ_3, zuP_1, zuP_2, zuP_3, zuC_1, zuC_2, reduceIte, Nat.reduceEqDiff, false_and, and_false, true_and, and_true, and_self, or_true, true_or, or_false, false_or] at q; omega
      · have q := zsm_at hz46 1005 w 0 (by decide); simp only [zuI_1, zuI_2, zuJ_1, zuJ_2, zuJ_3, zuP_1, zuP_2, zuP_3, zuC_1, zuC_2, reduceIte, Nat.reduceEqDiff, false_and, and_false, true_and, and_true, and_self, or_true, true_or, or_false, false_or] at q; omega
      · have q := zsm_at hz46 1001 w 0 (by decide); simp only [zuI_1, zuI_2, zuJ_1, zuJ_2, zuJ_3, zuP_1, zuP_2, zuP_3, zuC_1, zuC_2, reduceIte, Nat.reduceEqDiff, false_and, and_false, true_and, and_true, and_self, or_true, true_or, or_false, false_or] at q; omega
      obtain ⟨hh1, lwG2, hh2, hh3, hh4, hh5, hh6, hh7, hh8, hh9⟩ := hG2
      refine zs_aload_n (pc := 49) C dX9_text_49 rfl ?_
      refine zVv0 (pc := 50) C dX9_text_50 v_X9_230 (c_X9_tokenY hX (by omega)) (by decide) (by decide) ⟨Nat.zero_le _, Nat.zero_le _⟩ (Nat.le_of_ble_eq_true rfl) (fun G50 hp50 => ?_)
      obtain ⟨hz50, lo50, hq50⟩ := hp50
      have tr50_1001 := zsm_at hz50 1001 w 0 (by decide)
      try simp only [zuI_1, zuI_2, zuJ_1, zuJ_2, zuJ_3, zuP_1, zuP_2, zuP_3, zuC_1, zuC_2, reduceIte, Nat.reduceEqDiff, false_and, and_false, true_and, and_true, and_self, or_true, true_or, or_false, false_or] at tr50_1001
      have hb9 : G2.1 2057 (Γ.2.1 w 0) = (G.1 2057 (Γ.2.1 w 0)) := by rw [hh1.1 2057 (by decide)]
      have hg9 := gT_0 (b := (G.1 2057 (Γ.2.1 w 0))) (n := k) (A := A) (by omega) hA.1 hb9 hh5 hh6 hz50 hq50
      have hr9 : gR (G.1 2057 (Γ.2.1 w 0)) k Γ w (sNext (G.1 2057 (Γ.2.1 w 0)) k A) G50 := ⟨hg9, ⟨by rw [sNext_f (by decide)]; exact hA.2.1, by rw [hz50.1 1004 (by decide)]; exact hh7, by rw [hz50.1 1005 (by decide), sNext_f (by decide), hA.2.2.1]; exact hh8⟩, gD_0 (b := (G.1 2057 (Γ.2.1 w 0))) (n := k) hA (fun f j q => sNext_f q) (gZ_sm hz50 (by decide) hh4)⟩
      refine zs_iconst (pc := 53) C dX9_text_53 (by decide) ?_
      refine zs_istore_n (pc := 54) C dX9_text_54 (by decide) ?_
      dsimp only [zset, zclr, znone]
      have L55 : ∀ (nn : Nat) (x2 : Int) (G1 : zH) (A1 : aS) (m1 : Nat), (zsm [1007, 1008, 1009, 1010, 1004, 1005, 1011, 2063, 2064, 2065, 1018, 2066, 2067, 2068, 2069, 1019, 2074, 2075, 2076, 2078, 1043, 1021, 2077, 1042, 1044, 1045, 1046, 1047, 2071, 2072, 2073, 2061, 2062, 1017, 2070, 1020, 2060, 2059, 1001, 1002, 1006] G G1) → (MI Γ w G1) → (gR (G.1 2057 (Γ.2.1 w 0)) k Γ w A1 G1) → (RC Γ w G1) → (G1.1 1001 w 0 = 0) → (sLN (G.1 2057 (Γ.2.1 w 0)) k m1 A1 = sLN (G.1 2057 (Γ.2.1 w 0)) k 700 (sNext (G.1 2057 (Γ.2.1 w 0)) k A)) → (sLC (G.1 2057 (Γ.2.1 w 0)) k m1 x2 A1 = sLC (G.1 2057 (Γ.2.1 w 0)) k 700 0 (sNext (G.1 2057 (Γ.2.1 w 0)) k A)) → (k - tP (G.1 2057 (Γ.2.1 w 0)) k A1 ≤ m1) → (0 ≤ x2 ∧ x2 + m1 ≤ 700) → (LJr G G1) → (701 - G1.1 1010 w 0).toNat < nn → Z p l e (zrm 6) s m args below meth c Γ 3 0 0 (MQ below (zQc Γ (zpi (fun x G' => zsm [1007, 1008, 1009, 1010, 1004, 1005, 1011, 2063, 2064, 2065, 1018, 2066, 2067, 2068, 2069, 1019, 2074, 2075, 2076, 2078, 1043, 1021, 2077, 1042, 1044, 1045, 1046, 1047, 2071, 2072, 2073, 2061, 2062, 1017, 2070, 1020, 2060, 2059, 1012, 1013, 1014, 1015, 1016, 2081, 2082, 2083, 2084, 2085, 2086, 2087, 2088, 2089, 2090, 1083, 1084, 1086, 1001, 1002, 1006] G G' ∧ ((MI Γ w G' ∧ (0 ≤ k ∧ k ≤ G.1 1001 w 0 → G'.1 1001 w 0 = 0 ∧ G'.1 1004 w 0 = (sLN (G.1 2057 (Γ.2.1 w 0)) k 700 (sNext (G.1 2057 (Γ.2.1 w 0)) k A)) 1 0 ∧ G'.1 1005 w 0 = (sLN (G.1 2057 (Γ.2.1 w 0)) k 700 (sNext (G.1 2057 (Γ.2.1 w 0)) k A)) 2 0 ∧ x = (if (sLN (G.1 2057 (Γ.2.1 w 0)) k 700 (sNext (G.1 2057 (Γ.2.1 w 0)) k A)) 1 0 = 0 then sLC (G.1 2057 (Γ.2.1 w 0)) k 700 0 (sNext (G.1 2057 (Γ.2.1 w 0)) k A) else -1)) ∧ (¬ (0 ≤ k ∧ k ≤ G.1 1001 w 0) → x = -2 ∧ G'.1 1001 w 0 = G.1 1001 w 0 ∧ G'.1 1004 w 0 = G.1 1004 w 0 ∧ G'.1 1005 w 0 = G.1 1005 w 0)) ∧ ((0 ≤ k ∧ k ≤ G.1 1001 w 0 ∧ (sLN (G.1 2057 (Γ.2.1 w 0)) k 700 (sNext (G.1 2057 (Γ.2.1 w 0)) k A)) 1 0 = 0 → kR Γ w (sLN (G.1 2057 (Γ.2.1 w 0)) k 700 (sNext (G.1 2057 (Γ.2.1 w 0)) k A)) G' ∧ (∀ W : aS, wBeg (sLN (G.1 2057 (Γ.2.1 w 0)) k 700 (sNext (G.1 2057 (Γ.2.1 w 0)) k A)) W → rW Γ w 0 W G' ∧ rS Γ w W G' ∧ rD w W G') ∧ G'.1 1084 w 0 = 0 ∧ G'.1 1086 w 0 = 0) ∧ (¬ (0 ≤ k ∧ k ≤ G.1 1001 w 0 ∧ (sLN (G.1 2057 (Γ.2.1 w 0)) k 700 (sNext (G.1 2057 (Γ.2.1 w 0)) k A)) 1 0 = 0) → kS w G G' ∧ (∀ r ∈ [2081, 2082, 2083, 2084, 2085, 2086, 2087, 2088, 2089, 2090, 2093, 2094, 2091, 2092, 2095, 2096, 2097, 2098, 2099, 2100, 1083, 1084, 1086, 1087, 2105, 2106, 2107], G'.1 r = G.1 r) ∧ G'.2.1 = G.2.1)))))) args s 0 0 (zA Γ)) 55 [some (zr 10 w), some (zi k), some (zi x2)] [] G1 := by
        intro nn
        induction nn with
        | zero => intro x2 G1 A1 m1 h55_0 h55_1 h55_2 h55_3 h55_4 h55_5 h55_6 h55_7 h55_8 h55_9 hm; exact absurd hm (Nat.not_lt_zero _)
        | succ nn ih55 =>
          intro x2 G1 A1 m1 h55_0 h55_1 h55_2 h55_3 h55_4 h55_5 h55_6 h55_7 h55_8 h55_9 hm55
          refine zs_good (fun hGdg => ?_)
          have hbg_1010 := hGdg.1 1010 w 0
          rw [r_1010] at hbg_1010
          have b10 := h55_2.1.2.2.2.2.1
          have bn := h55_2.1.2.2.2.1
          refine zs_aload_n (pc := 55) C dX9_text_55 rfl ?_
          refine zs_geti (r := 1008) (pc := 56) C dX9_text_56 w_X9_196 f_10_8 rfl (r_1008 0) (fun v56 e56 l56 u56 => ?_)
          refine zs_if_eq (tgt := 77) (pc := 59) C dX9_text_59 (by decide) (fun h59 => ?_) (fun h59 => ?_)
          · skip
            have nk : tK (G.1 2057 (Γ.2.1 w 0)) k A1 = 0 := (gT_end h55_2.1).mp (by omega)
            have hs9 := sLN_e (b := (G.1 2057 (Γ.2.1 w 0))) (n := k) (A := A1) (fun q => q.2 nk) m1 x2
            have e1 : sLN (G.1 2057 (Γ.2.1 w 0)) k 700 (sNext (G.1 2057 (Γ.2.1 w 0)) k A) = A1 := (by rw [← h55_5]; exact hs9.1)
            have h80q : ∀ j : Nat, j < 20 → ¬ ((j : Int) < 4 * A1 4 1 ∧ (j : Int) % 4 < A1 4 0) → A1 8 j = 0 := by
              have q := (TA_cl (b := (G.1 2057 (Γ.2.1 w 0))) (n := k) (A0 := A) ⟨by omega, by omega⟩ hA (by rw [e1]; exact h55_2.2.1.1)).2.2
              rw [e1] at q
              exact q
            refine zs_aload_n (pc := 77) C dX9_text_77 rfl ?_
            refine zVv0 (pc := 78) C dX9_text_78 v_X9_175 (c_X9_keepTextW (A := A1) hX h55_1 h55_3 (fun G1 h => kR_of h55_2.2.2 h) h80q) (by decide) (by decide) ⟨Nat.zero_le _, Nat.zero_le _⟩ (Nat.le_of_ble_eq_true rfl) (fun G78 hp78 => ?_)
            obtain ⟨hz78, hq78⟩ := hp78
            have tr78_1001 := zsm_at hz78 1001 w 0 (by decide)
            try simp only [zuI_1, zuI_2, zuJ_1, zuJ_2, zuJ_3, zuP_1, zuP_2, zuP_3, zuC_1, zuC_2, reduceIte, Nat.reduceEqDiff, false_and, and_false, true_and, and_true, and_self, or_true, true_or, or_false, false_or] at tr78_1001
            obtain ⟨hMI, hkR9, bW, b84, b86⟩ := hq78
            have u1 := zsm_at hz78 1001 w 0 (by decide)
            have u4 := zsm_at hz78 1004 w 0 (by decide)
            have u5 := zsm_at hz78 1005 w 0 (by decide)
            refine zs_iload_n (pc := 81) C dX9_text_81 rfl ?_
            exact zs_iret (pc := 82) C hr hlk dX9_text_82 ⟨by repeat (first | exact zsm_rf | assumption | refine zsm_C (by decide) ?_ | refine zsm_I (by decide) ?_ | refine zsm_J ?_ | refine zsm_c (by assumption) (by decide) ?_), ⟨⟨hMI, fun _ => (by have e1 : sLN (G.1 2057 (Γ.2.1 w 0)) k 700 (sNext (G.1 2057 (Γ.2.1 w 0)) k A) = A1 := (by rw [← h55_5]; exact hs9.1); have e2 : sLC (G.1 2057 (Γ.2.1 w 0)) k 700 0 (sNext (G.1 2057 (Γ.2.1 w 0)) k A) = x2 := (by rw [← h55_6]; exact hs9.2); rw [e1, e2, if_pos h55_2.2.1.1]; have q8 := h55_2.2.1; have q1 := q8.1; have q2 := q8.2.1; have q3 := q8.2.2; exact ⟨by omega, by omega, by omega, rfl⟩), fun q => by omega⟩, (by rw [e1]; exact ⟨fun _ => ⟨hkR9, bW, b84, b86⟩, fun q => absurd ⟨by omega, by omega, h55_2.2.1.1⟩ q⟩)⟩⟩
          · skip
            have nk : tK (G.1 2057 (Γ.2.1 w 0)) k A1 ≠ 0 := fun q => (by have q2 := (gT_end h55_2.1).mpr q; omega)
            have lt9 := tK_lt.mp nk
            have hs9 := sLN_s (c := x2) (m := m1) h55_2.2.1.1 nk (by omega)
            refine zs_aload_n (pc := 62) C dX9_text_62 rfl ?_
            refine zVi0 (pc := 63) C dX9_text_63 v_X9_307 (c_X9_lineReadY hX h55_1 h55_3 h55_2 (by omega)) (by decide) (by decide) ⟨Nat.zero_le _, Nat.zero_le _⟩ (Nat.le_of_ble_eq_true rfl) (fun x63 G63 l63 u63 hp63 => ?_)
            obtain ⟨hz63, lo63, hq63⟩ := hp63
            have tr63_1001 := zsm_at hz63 1001 w 0 (by decide)
            try simp only [zuI_1, zuI_2, zuJ_1, zuJ_2, zuJ_3, zuP_1, zuP_2, zuP_3, zuC_1, zuC_2, reduceIte, Nat.reduceEqDiff, false_and, and_false, true_and, and_true, and_self, or_true, true_or, or_false, false_or] at tr63_1001
            have hMI := hq63.2.1
            have hx := hq63.2.2.1
            have hy := hq63.2.2.2
            refine zs_if_ne (tgt := 71) (pc := 66) C dX9_text_66 (by decide) (fun h66 => ?_) (fun h66 => ?_)
            · skip
              have hy1 := hx (by omega)
              have s1 := hy1.1
              have s2 := hy1.2.1
              have s3 := hy1.2.2
              have s4 := s2.1.2.2.2.2.1
              clear hx hy hy1
              first | refine zs_iinc (pc := 71) C dX9_text_71 rfl (by decide) (by omega) ?_ | refine zs_iincF (pc := 71) C dX9_text_71 rfl (by decide) (fun z71 hz711 hz712 => ?_)
              dsimp only [zset, zclr, znone]
              refine zs_goto (tgt := 55) (pc := 74) C dX9_text_74 (by decide) ?_
              exact zs_wk (ih55 _ _ _ _ (by repeat (first | exact zsm_rf | assumption | refine zsm_C (by decide) ?_ | refine zsm_I (by decide) ?_ | refine zsm_J ?_ | refine zsm_c (by assumption) (by decide) ?_)) hMI s2 s1 (by rw [hz63.1 1001 (by decide)]; exact h55_4) (by rw [← h55_5]; exact hs9.1.symm) (by rw [← h55_6]; exact hs9.2.symm) (by omega) (by omega) (by with_reducible repeat (first | exact LJr_rf | assumption | refine LJr_I (h := 0) (by decide) (Nat.zero_le _) ?_ | refine LJr_I (h := 3) (by decide) (by omega) ?_ | refine LJr_I (h := 4) (by decide) (by omega) ?_ | refine LJr_I (h := 5) (by decide) (by omega) ?_ | refine LJr_I (h := 7) (by decide) (by omega) ?_ | refine LJr_I (h := 20) (by decide) (by omega) ?_ | refine LJr_I (h := 64) (by decide) (by omega) ?_ | refine LJr_c (by assumption) ?_)) (by omega)) (zwk_s rfl (zwk_s rfl (zwk_s rfl zwk_0)))
            · skip
              refine zs_iconst (pc := 69) C dX9_text_69 (by decide) ?_
              exact zs_iret (pc := 70) C hr hlk dX9_text_70 ⟨by repeat (first | exact zsm_rf | assumption | refine zsm_C (by decide) ?_ | refine zsm_I (by decide) ?_ | refine zsm_J ?_ | refine zsm_c (by assumption) (by decide) ?_), ⟨⟨hMI, fun _ => (by have hFN := hy (by omega); have e1 : sLN (G.1 2057 (Γ.2.1 w 0)) k 700 (sNext (G.1 2057 (Γ.2.1 w 0)) k A) = sLine (G.1 2057 (Γ.2.1 w 0)) k A1 := (by rw [← h55_5, hs9.1]; exact (sLN_e (fun q => hFN.1 q.1) _ 0).1); rw [e1, if_neg hFN.1]; have q9 := zsm_at hz63 1001 w 0 (by decide); exact ⟨by omega, hFN.2.1, hFN.2.2, rfl⟩), fun q => by omega⟩, (by have hFN := hy (by omega); have e1 : sLN (G.1 2057 (Γ.2.1 w 0)) k 700 (sNext (G.1 2057 (Γ.2.1 w 0)) k A) = sLine (G.1 2057 (Γ.2.1 w 0)) k A1 := (by rw [← h55_5, hs9.1]; exact (sLN_e (fun q => hFN.1 q.1) _ 0).1); have fr : zsm [1007, 1008, 1009, 1010, 1004, 1005, 1011, 2063, 2064, 2065, 1018, 2066, 2067, 2068, 2069, 1019, 2074, 2075, 2076, 2078, 1043, 1021, 2077, 1042, 1044, 1045, 1046, 1047, 2071, 2072, 2073, 2061, 2062, 1017, 2070, 1020, 2060, 2059, 1001, 1002, 1006] G G63 := (by repeat (first | exact zsm_rf | assumption | refine zsm_C (by decide) ?_ | refine zsm_I (by decide) ?_ | refine zsm_J ?_ | refine zsm_c (by assumption) (by decide) ?_)); exact ⟨fun q => absurd q.2.2 (by rw [e1]; exact hFN.1), fun _ => ⟨⟨(show LJr G G63 from (by with_reducible repeat (first | exact LJr_rf | assumption | refine LJr_I (h := 0) (by decide) (Nat.zero_le _) ?_ | refine LJr_I (h := 3) (by decide) (by omega) ?_ | refine LJr_I (h := 4) (by decide) (by omega) ?_ | refine LJr_I (h := 5) (by decide) (by omega) ?_ | refine LJr_I (h := 7) (by decide) (by omega) ?_ | refine LJr_I (h := 20) (by decide) (by omega) ?_ | refine LJr_I (h := 64) (by decide) (by omega) ?_ | refine LJr_c (by assumption) ?_))).1, zsm_at fr 1012 w 0 (by decide), zsm_at fr 1013 w 0 (by decide), zsm_at fr 1014 w 0 (by decide), zsm_at fr 1015 w 0 (by decide), zsm_at fr 1016 w 0 (by decide)⟩, (fun r hr => fr.1 r ((show ∀ r ∈ [2081, 2082, 2083, 2084, 2085, 2086, 2087, 2088, 2089, 2090, 2093, 2094, 2091, 2092, 2095, 2096, 2097, 2098, 2099, 2100, 1083, 1084, 1086, 1087, 2105, 2106, 2107], r ∉ [1007, 1008, 1009, 1010, 1004, 1005, 1011, 2063, 2064, 2065, 1018, 2066, 2067, 2068, 2069, 1019, 2074, 2075, 2076, 2078, 1043, 1021, 2077, 1042, 1044, 1045, 1046, 1047, 2071, 2072, 2073, 2061, 2062, 1017, 2070, 1020, 2060, 2059, 1001, 1002, 1006] by decide) r hr)), (show LJr G G63 from (by with_reducible repeat (first | exact LJr_rf | assumption | refine LJr_I (h := 0) (by decide) (Nat.zero_le _) ?_ | refine LJr_I (h := 3) (by decide) (by omega) ?_ | refine LJr_I (h := 4) (by decide) (by omega) ?_ | refine LJr_I (h := 5) (by decide) (by omega) ?_ | refine LJr_I (h := 7) (by decide) (by omega) ?_ | refine LJr_I (h := 20) (by decide) (by omega) ?_ | refine LJr_I (h := 64) (by decide) (by omega) ?_ | refine LJr_c (by assumption) ?_))).2⟩⟩)⟩⟩
      exact zs_wk (L55 _ _ _ _ _ (by repeat (first | exact zsm_rf | assumption | refine zsm_C (by decide) ?_ | refine zsm_I (by decide) ?_ | refine zsm_J ?_ | refine zsm_c (by assumption) (by decide) ?_)) (by repeat (first | assumption | refine MI_I (by decide) ?_ | refine MI_J ?_ | refine MI_sm (by assumption) (by decide) ?_ | refine MI_sn (by assumption) (by decide) ?_)) hr9 (by repeat (first | assumption | refine RC_I (by decide) ?_ | refine RC_sm (by assumption) (by decide) ?_)) (by rw [hz50.1 1001 (by decide)]; exact hh9) rfl rfl (by have q := hg9.2.2.2.2.1; have q2 := hg9.2.2.2.1; rw [(show tP (G.1 2057 (Γ.2.1 w 0)) k (sNext (G.1 2057 (Γ.2.1 w 0)) k A) = G50.1 1010 w 0 from q.symm)]; have q3 := sp_ge (f := fB) (b := G2.1 2057 (Γ.2.1 w 0)) (n := G2.1 1006 w 0) (p := G2.1 1007 w 0); have q4 := hq50.1; unfold sk at q4; omega) (by omega) (by with_reducible repeat (first | exact LJr_rf | assumption | refine LJr_I (h := 0) (by decide) (Nat.zero_le _) ?_ | refine LJr_I (h := 3) (by decide) (by omega) ?_ | refine LJr_I (h := 4) (by decide) (by omega) ?_ | refine LJr_I (h := 5) (by decide) (by omega) ?_ | refine LJr_I (h := 7) (by decide) (by omega) ?_ | refine LJr_I (h := 20) (by decide) (by omega) ?_ | refine LJr_I (h := 64) (by decide) (by omega) ?_ | refine LJr_c (by assumption) ?_)) (Nat.lt_succ_self _)) (zwk_s rfl (zwk_s rfl (zwk_s rfl zwk_0)))
    · skip
      refine zs_bipush (pc := 17) C dX9_text_17 (by decide) (by decide) ?_
      exact zs_iret (pc := 19) C hr hlk dX9_text_19 ⟨by repeat (first | exact zsm_rf | assumption | refine zsm_C (by decide) ?_ | refine zsm_I (by decide) ?_ | refine zsm_J ?_ | refine zsm_c (by assumption) (by decide) ?_), ⟨⟨(by repeat (first | assumption | refine MI_I (by decide) ?_ | refine MI_J ?_ | refine MI_sm (by assumption) (by decide) ?_ | refine MI_sn (by assumption) (by decide) ?_)), fun q => by omega, fun _ => ⟨rfl, by simp only [zuI_1, zuI_2, zuJ_1, zuJ_2, zuJ_3, zuP_1, zuP_2, zuP_3, zuC_1, zuC_2, reduceIte, Nat.reduceEqDiff, false_and, and_false, true_and, and_true, and_self, or_true, true_or, or_false, false_or], by simp only [zuI_1, zuI_2, zuJ_1, zuJ_2, zuJ_3, zuP_1, zuP_2, zuP_3, zuC_1, zuC_2, reduceIte, Nat.reduceEqDiff, false_and, and_false, true_and, and_true, and_self, or_true, true_or, or_false, false_or], by simp only [zuI_1, zuI_2, zuJ_1, zuJ_2, zuJ_3, zuP_1, zuP_2, zuP_3, zuC_1, zuC_2, reduceIte, Nat.reduceEqDiff, false_and, and_false, true_and, and_true, and_self, or_true, true_or, or_false, false_or]⟩⟩, (by have fr : zsm [1002] G _ := (zsm_I (by decide) zsm_rf : zsm [1002] G (zuI G 1002 w 0 0)); refine ⟨fun q => (by exfalso; omega), fun _ => ⟨⟨(show LJr G (zuI G 1002 w 0 0) from (by with_reducible repeat (first | exact LJr_rf | assumption | refine LJr_I (h := 0) (by decide) (Nat.zero_le _) ?_ | refine LJr_I (h := 3) (by decide) (by omega) ?_ | refine LJr_I (h := 4) (by decide) (by omega) ?_ | refine LJr_I (h := 5) (by decide) (by omega) ?_ | refine LJr_I (h := 7) (by decide) (by omega) ?_ | refine LJr_I (h := 20) (by decide) (by omega) ?_ | refine LJr_I (h := 64) (by decide) (by omega) ?_ | refine LJr_c (by assumption) ?_))).1, ?_, ?_, ?_, ?_, ?_⟩, fun r hr => fr.1 r ((show ∀ r ∈ [2081, 2082, 2083, 2084, 2085, 2086, 2087, 2088, 2089, 2090, 2093, 2094, 2091, 2092, 2095, 2096, 2097, 2098, 2099, 2100, 1083, 1084, 1086, 1087, 2105, 2106, 2107], r ∉ [1002] by decide) r hr), rfl⟩⟩ <;> simp only [zuI_1, zuI_2, zuJ_1, zuJ_2, zuJ_3, zuP_1, zuP_2, zuP_3, zuC_1, zuC_2, reduceIte, Nat.reduceEqDiff, false_and, and_false, true_and, and_true, and_self, or_true, true_or, or_false, false_or])⟩⟩
