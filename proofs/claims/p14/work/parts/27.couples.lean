set_option maxHeartbeats 4000000 in
set_option maxRecDepth 100000 in
theorem c_X0_takeIfMore {l : Launch} {Γ : zΓ} {G : zH} {w : Nat} {q : Int} (hX : zXs Γ)  : zMet l Γ yX0_takeIfMore cX0_takeIfMore 3 none 1 [zr 1 w, zj q] G (zpv (fun G' => zsm [105, 2012] G G' ∧ True)) := by
  refine zMet_of RX0 hX (by decide) rfl (Nat.le_of_ble_eq_true rfl) ?_
  intro p e s m args below meth c C hr hlk
  show Z p l e (zrm 1) s m args below meth c Γ 3 0 0 (MQ below (zQc Γ (zpv (fun G' => zsm [105, 2012] G G' ∧ True))) args s 0 0 (zA Γ)) 0 [some (zr 1 w), some (zj q), none] [] G
  refine zs_aload_n (pc := 0) C dX0_takeIfMore_0 rfl ?_
  refine zs_getz (r := 105) (pc := 1) C dX0_takeIfMore_1 w_X0_43 f_1_5 rfl (r_105 0) (fun v1 e1 l1 u1 => ?_)
  refine zs_if_eq (tgt := 16) (pc := 4) C dX0_takeIfMore_4 (by decide) (fun h4 => ?_) (fun h4 => ?_)
  · skip
    refine zs_aload_n (pc := 16) C dX0_takeIfMore_16 rfl ?_
    refine zs_iconst (pc := 17) C dX0_takeIfMore_17 (by decide) ?_
    refine zs_putz (r := 105) (pc := 18) C dX0_takeIfMore_18 w_X0_43 f_1_5 rfl (r_105 0) (by omega) (by omega) ?_
    refine zs_aload_n (pc := 21) C dX0_takeIfMore_21 rfl ?_
    refine zs_lload_n (pc := 22) C dX0_takeIfMore_22 rfl ?_
    refine zs_putj (r := 104) (pc := 23) C dX0_takeIfMore_23 w_X0_47 f_1_4 rfl ?_
    refine zs_aload_n (pc := 26) C dX0_takeIfMore_26 rfl ?_
    refine zs_getf (pc := 27) C dX0_takeIfMore_27 w_X0_9 f_1_0 (by decide) ?_
    refine zs_iconst (pc := 30) C dX0_takeIfMore_30 (by decide) ?_
    refine zs_aload_n (pc := 31) C dX0_takeIfMore_31 rfl ?_
    refine zs_getf (pc := 32) C dX0_takeIfMore_32 w_X0_15 f_1_1 (by decide) ?_
    refine zs_iconst (pc := 35) C dX0_takeIfMore_35 (by decide) ?_
    refine zs_iconst (pc := 36) C dX0_takeIfMore_36 (by decide) ?_
    refine zs_acopy (r0 := 2011) (r1 := 2012) (pc := 37) C dX0_takeIfMore_37 ac_X0_59 a_11 a_12 (by decide) (by decide) (by omega) (by omega) (by omega) (by omega) (by omega) rfl rfl (fun i j => Or.inl (by rw [r_2011, r_2012]; decide)) (by decide) (Nat.le_of_ble_eq_true rfl) ?_
    exact zs_vret (pc := 40) C hr hlk dX0_takeIfMore_40 ⟨by repeat (first | exact zsm_rf | assumption | refine zsm_C (by decide) ?_ | refine zsm_I (by decide) ?_ | refine zsm_J ?_ | refine zsm_c (by assumption) (by decide) ?_), trivial⟩
  · skip
    refine zs_lload_n (pc := 7) C dX0_takeIfMore_7 rfl ?_
    refine zs_aload_n (pc := 8) C dX0_takeIfMore_8 rfl ?_
    refine zs_getj (r := 104) (pc := 9) C dX0_takeIfMore_9 w_X0_47 f_1_4 rfl (fun v9 e9 l9 u9 => ?_)
    refine zs_lcmp (pc := 12) C dX0_takeIfMore_12 (fun z12 hz12 => ?_)
    refine zs_if_le (tgt := 40) (pc := 13) C dX0_takeIfMore_13 (by decide) (fun h13 => ?_) (fun h13 => ?_)
    · skip
      exact zs_vret (pc := 40) C hr hlk dX0_takeIfMore_40 ⟨by repeat (first | exact zsm_rf | assumption | refine zsm_C (by decide) ?_ | refine zsm_I (by decide) ?_ | refine zsm_J ?_ | refine zsm_c (by assumption) (by decide) ?_), trivial⟩
    · skip
      refine zs_aload_n (pc := 16) C dX0_takeIfMore_16 rfl ?_
      refine zs_iconst (pc := 17) C dX0_takeIfMore_17 (by decide) ?_
      refine zs_putz (r := 105) (pc := 18) C dX0_takeIfMore_18 w_X0_43 f_1_5 rfl (r_105 0) (by omega) (by omega) ?_
      refine zs_aload_n (pc := 21) C dX0_takeIfMore_21 rfl ?_
      refine zs_lload_n (pc := 22) C dX0_takeIfMore_22 rfl ?_
      refine zs_putj (r := 104) (pc := 23) C dX0_takeIfMore_23 w_X0_47 f_1_4 rfl ?_
      refine zs_aload_n (pc := 26) C dX0_takeIfMore_26 rfl ?_
      refine zs_getf (pc := 27) C dX0_takeIfMore_27 w_X0_9 f_1_0 (by decide) ?_
      refine zs_iconst (pc := 30) C dX0_takeIfMore_30 (by decide) ?_
      refine zs_aload_n (pc := 31) C dX0_takeIfMore_31 rfl ?_
      refine zs_getf (pc := 32) C dX0_takeIfMore_32 w_X0_15 f_1_1 (by decide) ?_
      refine zs_iconst (pc := 35) C dX0_takeIfMore_35 (by decide) ?_
      refine zs_iconst (pc := 36) C dX0_takeIfMore_36 (by decide) ?_
      refine zs_acopy (r0 := 2011) (r1 := 2012) (pc := 37) C dX0_takeIfMore_37 ac_X0_59 a_11 a_12 (by decide) (by decide) (by omega) (by omega) (by omega) (by omega) (by omega) rfl rfl (fun i j => Or.inl (by rw [r_2011, r_2012]; decide)) (by decide) (Nat.le_of_ble_eq_true rfl) ?_
      exact zs_vret (pc := 40) C hr hlk dX0_takeIfMore_40 ⟨by repeat (first | exact zsm_rf | assumption | refine zsm_C (by decide) ?_ | refine zsm_I (by decide) ?_ | refine zsm_J ?_ | refine zsm_c (by assumption) (by decide) ?_), trivial⟩

set_option maxHeartbeats 4000000 in
set_option maxRecDepth 100000 in
theorem c_X0_pairFrom_s {l : Launch} {Γ : zΓ} {G : zH} {w : Nat} {p0 a b q : Int} (d : Nat) (hX : zXs Γ) (hih : ∀ {G : zH} {w : Nat} {p0 a b q : Int}, (0 ≤ p0 ∧ p0 ≤ 5 ∧ 5 < p0 + d) → zMet l Γ yX0_pairFrom cX0_pairFrom 7 none (2 + d) [zr 1 w, zi p0, zi a, zi b, zj q] G (zpv (fun G' => zsm [105, 2011, 2012] G G' ∧ True))) (hp : 0 ≤ p0 ∧ p0 ≤ 5 ∧ 5 < p0 + (d + 1)) : zMet l Γ yX0_pairFrom cX0_pairFrom 7 none (2 + (d + 1)) [zr 1 w, zi p0, zi a, zi b, zj q] G (zpv (fun G' => zsm [105, 2011, 2012] G G' ∧ True)) := by
  refine zMet_of RX0 hX (by decide) rfl (Nat.le_of_ble_eq_true rfl) ?_
  intro p e s m args below meth c C hr hlk
  show Z p l e (zrm (2 + (d + 1))) s m args below meth c Γ 7 0 0 (MQ below (zQc Γ (zpv (fun G' => zsm [105, 2011, 2012] G G' ∧ True))) args s 0 0 (zA Γ)) 0 [some (zr 1 w), some (zi p0), some (zi a), some (zi b), some (zj q), none, none] [] G
  refine zs_loc 1 rfl (fun ha1 hb1 => ?_)
  refine zs_loc 2 rfl (fun ha2 hb2 => ?_)
  refine zs_loc 3 rfl (fun ha3 hb3 => ?_)
  refine zs_iload_n (pc := 0) C dX0_pairFrom_0 rfl ?_
  refine zs_aload_n (pc := 1) C dX0_pairFrom_1 rfl ?_
  refine zs_geti (r := 103) (pc := 2) C dX0_pairFrom_2 w_X0_33 f_1_3 rfl (r_103 0) (fun v2 e2 l2 u2 => ?_)
  refine zs_icmp_lt (tgt := 15) (pc := 5) C dX0_pairFrom_5 (by decide) (fun h5 => ?_) (fun h5 => ?_)
  · skip
    refine zs_iload_n (pc := 15) C dX0_pairFrom_15 rfl ?_
    refine zs_iload_n (pc := 16) C dX0_pairFrom_16 rfl ?_
    refine zs_ishrF (pc := 17) C dX0_pairFrom_17 (fun z17 hz171 hz172 => ?_)
    refine zs_iconst (pc := 18) C dX0_pairFrom_18 (by decide) ?_
    first | refine zs_iand (pc := 19) C 1 dX0_pairFrom_19 (by decide) (by decide) (fun z19 hz191 hz192 => ?_) | refine zs_iand (pc := 19) C 2 dX0_pairFrom_19 (by decide) (by decide) (fun z19 hz191 hz192 => ?_) | refine zs_iand (pc := 19) C 8 dX0_pairFrom_19 (by decide) (by decide) (fun z19 hz191 hz192 => ?_) | refine zs_iandF (pc := 19) C dX0_pairFrom_19 (fun z19 hz191 hz192 => ?_)
    refine zs_if_eq (tgt := 35) (pc := 20) C dX0_pairFrom_20 (by decide) (fun h20 => ?_) (fun h20 => ?_)
    · skip
      refine zs_iload_n (pc := 35) C dX0_pairFrom_35 rfl ?_
      refine zs_iconst (pc := 36) C dX0_pairFrom_36 (by decide) ?_
      first | refine zs_iadd (pc := 37) C dX0_pairFrom_37 (by omega) ?_ | refine zs_iaddF (pc := 37) C dX0_pairFrom_37 (fun z37 hz371 hz372 => ?_)
      refine zs_istore (pc := 38) C dX0_pairFrom_38 (by decide) ?_
      dsimp only [zset, zclr, znone]
      have L40 : ∀ (nn : Nat) (x6 : Int) (G1 : zH), (p0 + 1 ≤ x6 ∧ x6 ≤ 5) → (zsm [105, 2011, 2012] G G1) → (5 - x6).toNat < nn → Z p l e (zrm (2 + (d + 1))) s m args below meth c Γ 7 0 0 (MQ below (zQc Γ (zpv (fun G' => zsm [105, 2011, 2012] G G' ∧ True))) args s 0 0 (zA Γ)) 40 [some (zr 1 w), some (zi p0), some (zi a), some (zi b), some (zj q), none, some (zi x6)] [] G1 := by
        intro nn
        induction nn with
        | zero => intro x6 G1 h40_0 h40_1 hm; exact absurd hm (Nat.not_lt_zero _)
        | succ nn ih40 =>
          intro x6 G1 h40_0 h40_1 hm40
          refine zs_iload (pc := 40) C dX0_pairFrom_40 rfl ?_
          refine zs_aload_n (pc := 42) C dX0_pairFrom_42 rfl ?_
          refine zs_geti (r := 103) (pc := 43) C dX0_pairFrom_43 w_X0_33 f_1_3 rfl (r_103 0) (fun v43 e43 l43 u43 => ?_)
          refine zs_icmp_ge (tgt := 108) (pc := 46) C dX0_pairFrom_46 (by decide) (fun h46 => ?_) (fun h46 => ?_)
          · skip
            refine zs_iload_n (pc := 108) C dX0_pairFrom_108 rfl ?_
            refine zs_if_eq (tgt := 130) (pc := 109) C dX0_pairFrom_109 (by decide) (fun h109 => ?_) (fun h109 => ?_)
            · skip
              exact zs_vret (pc := 130) C hr hlk dX0_pairFrom_130 ⟨by repeat (first | exact zsm_rf | assumption | refine zsm_C (by decide) ?_ | refine zsm_I (by decide) ?_ | refine zsm_J ?_ | refine zsm_c (by assumption) (by decide) ?_), trivial⟩
            · skip
              refine zs_aload_n (pc := 112) C dX0_pairFrom_112 rfl ?_
              refine zs_getf (pc := 113) C dX0_pairFrom_113 w_X0_9 f_1_0 (by decide) ?_
              refine zs_iload_n (pc := 116) C dX0_pairFrom_116 rfl ?_
              refine zs_iconst (pc := 117) C dX0_pairFrom_117 (by decide) ?_
              refine zs_iast (r := 2011) (pc := 118) C dX0_pairFrom_118 a_11 (by decide) (by omega) rfl (r_2011 _) (by omega) ?_
              refine zs_aload_n (pc := 119) C dX0_pairFrom_119 rfl ?_
              refine zs_iload_n (pc := 120) C dX0_pairFrom_120 rfl ?_
              refine zs_iconst (pc := 121) C dX0_pairFrom_121 (by decide) ?_
              first | refine zs_iadd (pc := 122) C dX0_pairFrom_122 (by omega) ?_ | refine zs_iaddF (pc := 122) C dX0_pairFrom_122 (fun z122 hz1221 hz1222 => ?_)
              refine zs_iload_n (pc := 123) C dX0_pairFrom_123 rfl ?_
              refine zs_iconst (pc := 124) C dX0_pairFrom_124 (by decide) ?_
              refine zs_lload (pc := 125) C dX0_pairFrom_125 rfl ?_
              refine zVv4 (pc := 127) C dX0_pairFrom_127 v_X0_51 (hih (by omega)) (by decide) (by simp only [zrm]; omega) ⟨Nat.zero_le _, Nat.zero_le _⟩ (Nat.le_of_ble_eq_true rfl) (fun G127 hp127 => ?_)
              obtain ⟨hz127, hq127⟩ := hp127
              try simp only [zuI_1, zuI_2, zuJ_1, zuJ_2, zuJ_3, zuP_1, zuP_2, zuP_3, zuC_1, zuC_2, reduceIte, Nat.reduceEqDiff, false_and, and_false, true_and, and_true, and_self, or_true, true_or, or_false, false_or] at hq127
              exact zs_vret (pc := 130) C hr hlk dX0_pairFrom_130 ⟨by repeat (first | exact zsm_rf | assumption | refine zsm_C (by decide) ?_ | refine zsm_I (by decide) ?_ | refine zsm_J ?_ | refine zsm_c (by assumption) (by decide) ?_), trivial⟩
          · skip
            refine zs_iload_n (pc := 49) C dX0_pairFrom_49 rfl ?_
            refine zs_iload (pc := 50) C dX0_pairFrom_50 rfl ?_
            refine zs_ishrF (pc := 52) C dX0_pairFrom_52 (fun z52 hz521 hz522 => ?_)
            refine zs_iconst (pc := 53) C dX0_pairFrom_53 (by decide) ?_
            first | refine zs_iand (pc := 54) C 1 dX0_pairFrom_54 (by decide) (by decide) (fun z54 hz541 hz542 => ?_) | refine zs_iand (pc := 54) C 2 dX0_pairFrom_54 (by decide) (by decide) (fun z54 hz541 hz542 => ?_) | refine zs_iand (pc := 54) C 8 dX0_pairFrom_54 (by decide) (by decide) (fun z54 hz541 hz542 => ?_) | refine zs_iandF (pc := 54) C dX0_pairFrom_54 (fun z54 hz541 hz542 => ?_)
            refine zs_if_ne (tgt := 102) (pc := 55) C dX0_pairFrom_55 (by decide) (fun h55 => ?_) (fun h55 => ?_)
            · skip
              first | refine zs_iinc (pc := 102) C dX0_pairFrom_102 rfl (by decide) (by omega) ?_ | refine zs_iincF (pc := 102) C dX0_pairFrom_102 rfl (by decide) (fun z102 hz1021 hz1022 => ?_)
              dsimp only [zset, zclr, znone]
              refine zs_goto (tgt := 40) (pc := 105) C dX0_pairFrom_105 (by decide) ?_
              exact zs_wk (ih40 _ _ (by first | omega | (simp only [zuI_1, zuI_2, zuJ_1, zuJ_2, zuJ_3, zuP_1, zuP_2, zuP_3, zuC_1, zuC_2, reduceIte, Nat.reduceEqDiff, false_and, and_false, true_and, and_true, and_self, or_true, true_or, or_false, false_or]; omega)) (by repeat (first | exact zsm_rf | assumption | refine zsm_C (by decide) ?_ | refine zsm_I (by decide) ?_ | refine zsm_J ?_ | refine zsm_c (by assumption) (by decide) ?_)) (by first | omega | (simp only [zuI_1, zuI_2, zuJ_1, zuJ_2, zuJ_3, zuP_1, zuP_2, zuP_3, zuC_1, zuC_2, reduceIte, Nat.reduceEqDiff, false_and, and_false, true_and, and_true, and_self, or_true, true_or, or_false, false_or]; omega))) (zwk_s rfl (zwk_s rfl (zwk_s rfl (zwk_s rfl (zwk_s rfl (zwk_n (zwk_s rfl zwk_0)))))))
            · skip
              refine zs_aload_n (pc := 58) C dX0_pairFrom_58 rfl ?_
              refine zs_getf (pc := 59) C dX0_pairFrom_59 w_X0_9 f_1_0 (by decide) ?_
              refine zs_iload_n (pc := 62) C dX0_pairFrom_62 rfl ?_
              refine zs_iload (pc := 63) C dX0_pairFrom_63 rfl ?_
              refine zs_iast (r := 2011) (pc := 65) C dX0_pairFrom_65 a_11 (by decide) (by omega) rfl (r_2011 _) (by omega) ?_
              refine zs_aload_n (pc := 66) C dX0_pairFrom_66 rfl ?_
              refine zs_getf (pc := 67) C dX0_pairFrom_67 w_X0_9 f_1_0 (by decide) ?_
              refine zs_iload (pc := 70) C dX0_pairFrom_70 rfl ?_
              refine zs_iload_n (pc := 72) C dX0_pairFrom_72 rfl ?_
              refine zs_iast (r := 2011) (pc := 73) C dX0_pairFrom_73 a_11 (by decide) (by omega) rfl (r_2011 _) (by omega) ?_
              refine zs_aload_n (pc := 74) C dX0_pairFrom_74 rfl ?_
              refine zs_iload_n (pc := 75) C dX0_pairFrom_75 rfl ?_
              refine zs_iconst (pc := 76) C dX0_pairFrom_76 (by decide) ?_
              first | refine zs_iadd (pc := 77) C dX0_pairFrom_77 (by omega) ?_ | refine zs_iaddF (pc := 77) C dX0_pairFrom_77 (fun z77 hz771 hz772 => ?_)
              refine zs_iload_n (pc := 78) C dX0_pairFrom_78 rfl ?_
              refine zs_iconst (pc := 79) C dX0_pairFrom_79 (by decide) ?_
              refine zs_iload (pc := 80) C dX0_pairFrom_80 rfl ?_
              refine zs_ishlF (pc := 82) C dX0_pairFrom_82 (fun z82 hz821 hz822 => ?_)
              refine zs_iorF (pc := 83) C dX0_pairFrom_83 (fun z83 hz831 hz832 => ?_)
              refine zs_iload_n (pc := 84) C dX0_pairFrom_84 rfl ?_
              refine zs_lload (pc := 85) C dX0_pairFrom_85 rfl ?_
              refine zs_aload_n (pc := 87) C dX0_pairFrom_87 rfl ?_
              refine zs_getf (pc := 88) C dX0_pairFrom_88 w_X0_18 f_1_2 (by decide) ?_
              refine zs_iload_n (pc := 91) C dX0_pairFrom_91 rfl ?_
              refine zs_iconst (pc := 92) C dX0_pairFrom_92 (by decide) ?_
              first | refine zs_imul (pc := 93) C dX0_pairFrom_93 (by omega) ?_ | refine zs_imulF (pc := 93) C dX0_pairFrom_93 (fun z93 hz931 hz932 => ?_)
              refine zs_iload (pc := 94) C dX0_pairFrom_94 rfl ?_
              first | refine zs_iadd (pc := 96) C dX0_pairFrom_96 (by omega) ?_ | refine zs_iaddF (pc := 96) C dX0_pairFrom_96 (fun z96 hz961 hz962 => ?_)
              refine zs_lald (r := 2013) (pc := 97) C dX0_pairFrom_97 a_13 (by decide) (by omega) rfl (fun v97 e97 l97 u97 => ?_)
              try simp only [zuI_1, zuI_2, zuJ_1, zuJ_2, zuJ_3, zuP_1, zuP_2, zuP_3, zuC_1, zuC_2, reduceIte, Nat.reduceEqDiff, false_and, and_false, true_and, and_true, and_self, or_true, true_or, or_false, false_or] at e97
              refine zs_laddF (pc := 98) C dX0_pairFrom_98 (fun z98 hz981 hz982 => ?_)
              refine zVv4 (pc := 99) C dX0_pairFrom_99 v_X0_51 (hih (by omega)) (by decide) (by simp only [zrm]; omega) ⟨Nat.zero_le _, Nat.zero_le _⟩ (Nat.le_of_ble_eq_true rfl) (fun G99 hp99 => ?_)
              obtain ⟨hz99, hq99⟩ := hp99
              try simp only [zuI_1, zuI_2, zuJ_1, zuJ_2, zuJ_3, zuP_1, zuP_2, zuP_3, zuC_1, zuC_2, reduceIte, Nat.reduceEqDiff, false_and, and_false, true_and, and_true, and_self, or_true, true_or, or_false, false_or] at hq99
              first | refine zs_iinc (pc := 102) C dX0_pairFrom_102 rfl (by decide) (by omega) ?_ | refine zs_iincF (pc := 102) C dX0_pairFrom_102 rfl (by decide) (fun z102 hz1021 hz1022 => ?_)
              dsimp only [zset, zclr, znone]
              refine zs_goto (tgt := 40) (pc := 105) C dX0_pairFrom_105 (by decide) ?_
              exact zs_wk (ih40 _ _ (by first | omega | (simp only [zuI_1, zuI_2, zuJ_1, zuJ_2, zuJ_3, zuP_1, zuP_2, zuP_3, zuC_1, zuC_2, reduceIte, Nat.reduceEqDiff, false_and, and_false, true_and, and_true, and_self, or_true, true_or, or_false, false_or]; omega)) (by repeat (first | exact zsm_rf | assumption | refine zsm_C (by decide) ?_ | refine zsm_I (by decide) ?_ | refine zsm_J ?_ | refine zsm_c (by assumption) (by decide) ?_)) (by first | omega | (simp only [zuI_1, zuI_2, zuJ_1, zuJ_2, zuJ_3, zuP_1, zuP_2, zuP_3, zuC_1, zuC_2, reduceIte, Nat.reduceEqDiff, false_and, and_false, true_and, and_true, and_self, or_true, true_or, or_false, false_or]; omega))) (zwk_s rfl (zwk_s rfl (zwk_s rfl (zwk_s rfl (zwk_s rfl (zwk_n (zwk_s rfl zwk_0)))))))
      exact zs_wk (L40 _ _ _ (by first | omega | (simp only [zuI_1, zuI_2, zuJ_1, zuJ_2, zuJ_3, zuP_1, zuP_2, zuP_3, zuC_1, zuC_2, reduceIte, Nat.reduceEqDiff, false_and, and_false, true_and, and_true, and_self, or_true, true_or, or_false, false_or]; omega)) (by repeat (first | exact zsm_rf | assumption | refine zsm_C (by decide) ?_ | refine zsm_I (by decide) ?_ | refine zsm_J ?_ | refine zsm_c (by assumption) (by decide) ?_)) (Nat.lt_succ_self _)) (zwk_s rfl (zwk_s rfl (zwk_s rfl (zwk_s rfl (zwk_s rfl (zwk_n (zwk_s rfl zwk_0)))))))
    · skip
      refine zs_aload_n (pc := 23) C dX0_pairFrom_23 rfl ?_
      refine zs_iload_n (pc := 24) C dX0_pairFrom_24 rfl ?_
      refine zs_iconst (pc := 25) C dX0_pairFrom_25 (by decide) ?_
      first | refine zs_iadd (pc := 26) C dX0_pairFrom_26 (by omega) ?_ | refine zs_iaddF (pc := 26) C dX0_pairFrom_26 (fun z26 hz261 hz262 => ?_)
      refine zs_iload_n (pc := 27) C dX0_pairFrom_27 rfl ?_
      refine zs_iload_n (pc := 28) C dX0_pairFrom_28 rfl ?_
      refine zs_lload (pc := 29) C dX0_pairFrom_29 rfl ?_
      refine zVv4 (pc := 31) C dX0_pairFrom_31 v_X0_51 (hih (by omega)) (by decide) (by simp only [zrm]; omega) ⟨Nat.zero_le _, Nat.zero_le _⟩ (Nat.le_of_ble_eq_true rfl) (fun G31 hp31 => ?_)
      obtain ⟨hz31, hq31⟩ := hp31
      exact zs_vret (pc := 34) C hr hlk dX0_pairFrom_34 ⟨by repeat (first | exact zsm_rf | assumption | refine zsm_C (by decide) ?_ | refine zsm_I (by decide) ?_ | refine zsm_J ?_ | refine zsm_c (by assumption) (by decide) ?_), trivial⟩
  · skip
    refine zs_aload_n (pc := 8) C dX0_pairFrom_8 rfl ?_
    refine zs_lload (pc := 9) C dX0_pairFrom_9 rfl ?_
    refine zVv1 (pc := 11) C dX0_pairFrom_11 v_X0_55 (c_X0_takeIfMore hX ) (by decide) (by simp only [zrm]; omega) ⟨Nat.zero_le _, Nat.zero_le _⟩ (Nat.le_of_ble_eq_true rfl) (fun G11 hp11 => ?_)
    obtain ⟨hz11, hq11⟩ := hp11
    exact zs_vret (pc := 14) C hr hlk dX0_pairFrom_14 ⟨by repeat (first | exact zsm_rf | assumption | refine zsm_C (by decide) ?_ | refine zsm_I (by decide) ?_ | refine zsm_J ?_ | refine zsm_c (by assumption) (by decide) ?_), trivial⟩

theorem c_X0_pairFrom_all {l : Launch} {Γ : zΓ} (hX : zXs Γ) : ∀ (d : Nat) {G : zH} {w : Nat} {p0 a b q : Int}, (0 ≤ p0 ∧ p0 ≤ 5 ∧ 5 < p0 + d) → zMet l Γ yX0_pairFrom cX0_pairFrom 7 none (2 + d) [zr 1 w, zi p0, zi a, zi b, zj q] G (zpv (fun G' => zsm [105, 2011, 2012] G G' ∧ True))
  | 0, G, w, p0, a, b, q, h => absurd h (by omega)
  | d + 1, G, w, p0, a, b, q, h => c_X0_pairFrom_s d hX (fun h => c_X0_pairFrom_all hX d h) (by omega)
theorem c_X0_pairFrom {l : Launch} {Γ : zΓ} {G : zH} {w : Nat} {p0 a b q : Int} (hX : zXs Γ) (h : 0 ≤ p0 ∧ p0 ≤ 5) : zMet l Γ yX0_pairFrom cX0_pairFrom 7 none 8 [zr 1 w, zi p0, zi a, zi b, zj q] G (zpv (fun G' => zsm [105, 2011, 2012] G G' ∧ True)) := c_X0_pairFrom_all hX 6 (by omega)

set_option maxHeartbeats 4000000 in
set_option maxRecDepth 100000 in
theorem c_X0_bringTogether {l : Launch} {Γ : zΓ} {G : zH} {w b : Nat} (hX : zXs Γ)  : zMet l Γ yX0_bringTogether cX0_bringTogether 6 none 9 [zr 1 w, zr 8 b] G (zpv (fun G' => zsm [103, 105, 2011, 2012] G G' ∧ True)) := by
  refine zMet_of RX0 hX (by decide) rfl (Nat.le_of_ble_eq_true rfl) ?_
  intro p e s m args below meth c C hr hlk
  show Z p l e (zrm 9) s m args below meth c Γ 6 0 0 (MQ below (zQc Γ (zpv (fun G' => zsm [103, 105, 2011, 2012] G G' ∧ True))) args s 0 0 (zA Γ)) 0 [some (zr 1 w), some (zr 8 b), none, none, none, none] [] G
  refine zs_aload_n (pc := 0) C dX0_bringTogether_0 rfl ?_
  refine zs_aload_n (pc := 1) C dX0_bringTogether_1 rfl ?_
  refine zs_getd (r := 800) (pc := 2) C dX0_bringTogether_2 w_X0_22 f_8_0 (by decide) rfl (fun v2 e2 t2 => ?_)
  subst e2
  refine zs_getf (pc := 5) C dX0_bringTogether_5 w_X0_28 f_6_2 (by decide) ?_
  refine zs_iconst (pc := 8) C dX0_bringTogether_8 (by decide) ?_
  refine zs_iald (r := 2037) (pc := 9) C dX0_bringTogether_9 a_37 (by decide) (by omega) rfl rfl (fun v9 e9 l9 u9 => ?_)
  have hsz := rs_2037 (1 : Int).toNat
  refine zs_puti (r := 103) (pc := 10) C dX0_bringTogether_10 w_X0_33 f_1_3 rfl (r_103 0) (by omega) ?_
  refine zs_iconst (pc := 13) C dX0_bringTogether_13 (by decide) ?_
  refine zs_istore_n (pc := 14) C dX0_bringTogether_14 (by decide) ?_
  dsimp only [zset, zclr, znone]
  have L15 : ∀ (nn : Nat) (x2 : Int) (G1 : zH), (0 ≤ x2 ∧ x2 ≤ 5) → (zsm [103, 105, 2011, 2012] G G1) → (5 - x2).toNat < nn → Z p l e (zrm 9) s m args below meth c Γ 6 0 0 (MQ below (zQc Γ (zpv (fun G' => zsm [103, 105, 2011, 2012] G G' ∧ True))) args s 0 0 (zA Γ)) 15 [some (zr 1 w), some (zr 8 b), some (zi x2), none, none, none] [] G1 := by
    intro nn
    induction nn with
    | zero => intro x2 G1 h15_0 h15_1 hm; exact absurd hm (Nat.not_lt_zero _)
    | succ nn ih15 =>
      intro x2 G1 h15_0 h15_1 hm15
      refine zs_iload_n (pc := 15) C dX0_bringTogether_15 rfl ?_
      refine zs_aload_n (pc := 16) C dX0_bringTogether_16 rfl ?_
      refine zs_geti (r := 103) (pc := 17) C dX0_bringTogether_17 w_X0_33 f_1_3 rfl (r_103 0) (fun v17 e17 l17 u17 => ?_)
      refine zs_icmp_ge (tgt := 80) (pc := 20) C dX0_bringTogether_20 (by decide) (fun h20 => ?_) (fun h20 => ?_)
      · skip
        refine zs_aload_n (pc := 80) C dX0_bringTogether_80 rfl ?_
        refine zs_iconst (pc := 81) C dX0_bringTogether_81 (by decide) ?_
        refine zs_putz (r := 105) (pc := 82) C dX0_bringTogether_82 w_X0_43 f_1_5 rfl (r_105 0) (by omega) (by omega) ?_
        refine zs_aload_n (pc := 85) C dX0_bringTogether_85 rfl ?_
        refine zs_lconst (n := 0) (pc := 86) C dX0_bringTogether_86 rfl (by decide) ?_
        refine zs_putj (r := 104) (pc := 87) C dX0_bringTogether_87 w_X0_47 f_1_4 rfl ?_
        refine zs_aload_n (pc := 90) C dX0_bringTogether_90 rfl ?_
        refine zs_iconst (pc := 91) C dX0_bringTogether_91 (by decide) ?_
        refine zs_iconst (pc := 92) C dX0_bringTogether_92 (by decide) ?_
        refine zs_aload_n (pc := 93) C dX0_bringTogether_93 rfl ?_
        refine zs_geti (r := 103) (pc := 94) C dX0_bringTogether_94 w_X0_33 f_1_3 rfl (r_103 0) (fun v94 e94 l94 u94 => ?_)
        try simp only [zuI_1, zuI_2, zuJ_1, zuJ_2, zuJ_3, zuP_1, zuP_2, zuP_3, zuC_1, zuC_2, reduceIte, Nat.reduceEqDiff, false_and, and_false, true_and, and_true, and_self, or_true, true_or, or_false, false_or] at e94
        refine zs_iconst (pc := 97) C dX0_bringTogether_97 (by decide) ?_
        first | refine zs_irem (pc := 98) C dX0_bringTogether_98 (by omega) (by omega) (fun hz981 hz982 => ?_) | refine zs_iremF (pc := 98) C dX0_bringTogether_98 (by omega) (fun z98 hz981 hz982 => ?_)
        refine zs_if_eq (tgt := 106) (pc := 99) C dX0_bringTogether_99 (by decide) (fun h99 => ?_) (fun h99 => ?_)
        · skip
          refine zs_iconst (pc := 106) C dX0_bringTogether_106 (by decide) ?_
          refine zs_lconst (n := 0) (pc := 107) C dX0_bringTogether_107 rfl (by decide) ?_
          refine zVv4 (pc := 108) C dX0_bringTogether_108 v_X0_51 (c_X0_pairFrom hX (by first | omega | (simp only [zuI_1, zuI_2, zuJ_1, zuJ_2, zuJ_3, zuP_1, zuP_2, zuP_3, zuC_1, zuC_2, reduceIte, Nat.reduceEqDiff, false_and, and_false, true_and, and_true, and_self, or_true, true_or, or_false, false_or]; omega))) (by decide) (by decide) ⟨Nat.zero_le _, Nat.zero_le _⟩ (Nat.le_of_ble_eq_true rfl) (fun G108 hp108 => ?_)
          obtain ⟨hz108, hq108⟩ := hp108
          try simp only [zuI_1, zuI_2, zuJ_1, zuJ_2, zuJ_3, zuP_1, zuP_2, zuP_3, zuC_1, zuC_2, reduceIte, Nat.reduceEqDiff, false_and, and_false, true_and, and_true, and_self, or_true, true_or, or_false, false_or] at hq108
          exact zs_vret (pc := 111) C hr hlk dX0_bringTogether_111 ⟨by repeat (first | exact zsm_rf | assumption | refine zsm_C (by decide) ?_ | refine zsm_I (by decide) ?_ | refine zsm_J ?_ | refine zsm_c (by assumption) (by decide) ?_), trivial⟩
        · skip
          refine zs_iconst (pc := 102) C dX0_bringTogether_102 (by decide) ?_
          refine zs_goto (tgt := 107) (pc := 103) C dX0_bringTogether_103 (by decide) ?_
          refine zs_lconst (n := 0) (pc := 107) C dX0_bringTogether_107 rfl (by decide) ?_
          refine zVv4 (pc := 108) C dX0_bringTogether_108 v_X0_51 (c_X0_pairFrom hX (by first | omega | (simp only [zuI_1, zuI_2, zuJ_1, zuJ_2, zuJ_3, zuP_1, zuP_2, zuP_3, zuC_1, zuC_2, reduceIte, Nat.reduceEqDiff, false_and, and_false, true_and, and_true, and_self, or_true, true_or, or_false, false_or]; omega))) (by decide) (by decide) ⟨Nat.zero_le _, Nat.zero_le _⟩ (Nat.le_of_ble_eq_true rfl) (fun G108 hp108 => ?_)
          obtain ⟨hz108, hq108⟩ := hp108
          try simp only [zuI_1, zuI_2, zuJ_1, zuJ_2, zuJ_3, zuP_1, zuP_2, zuP_3, zuC_1, zuC_2, reduceIte, Nat.reduceEqDiff, false_and, and_false, true_and, and_true, and_self, or_true, true_or, or_false, false_or] at hq108
          exact zs_vret (pc := 111) C hr hlk dX0_bringTogether_111 ⟨by repeat (first | exact zsm_rf | assumption | refine zsm_C (by decide) ?_ | refine zsm_I (by decide) ?_ | refine zsm_J ?_ | refine zsm_c (by assumption) (by decide) ?_), trivial⟩
      · skip
        refine zs_iload_n (pc := 23) C dX0_bringTogether_23 rfl ?_
        refine zs_iconst (pc := 24) C dX0_bringTogether_24 (by decide) ?_
        first | refine zs_iadd (pc := 25) C dX0_bringTogether_25 (by omega) ?_ | refine zs_iaddF (pc := 25) C dX0_bringTogether_25 (fun z25 hz251 hz252 => ?_)
        refine zs_istore_n (pc := 26) C dX0_bringTogether_26 (by decide) ?_
        dsimp only [zset, zclr, znone]
        have L27 : ∀ (nn : Nat) (x3 : Int) (G2 : zH), (x2 + 1 ≤ x3 ∧ x3 ≤ 5) → (zsm [103, 105, 2011, 2012] G G2) → (5 - x3).toNat < nn → Z p l e (zrm 9) s m args below meth c Γ 6 0 0 (MQ below (zQc Γ (zpv (fun G' => zsm [103, 105, 2011, 2012] G G' ∧ True))) args s 0 0 (zA Γ)) 27 [some (zr 1 w), some (zr 8 b), some (zi x2), some (zi x3), none, none] [] G2 := by
          intro nn
          induction nn with
          | zero => intro x3 G2 h27_0 h27_1 hm; exact absurd hm (Nat.not_lt_zero _)
          | succ nn ih27 =>
            intro x3 G2 h27_0 h27_1 hm27
            refine zs_iload_n (pc := 27) C dX0_bringTogether_27 rfl ?_
            refine zs_aload_n (pc := 28) C dX0_bringTogether_28 rfl ?_
            refine zs_geti (r := 103) (pc := 29) C dX0_bringTogether_29 w_X0_33 f_1_3 rfl (r_103 0) (fun v29 e29 l29 u29 => ?_)
            refine zs_icmp_ge (tgt := 74) (pc := 32) C dX0_bringTogether_32 (by decide) (fun h32 => ?_) (fun h32 => ?_)
            · skip
              first | refine zs_iinc (pc := 74) C dX0_bringTogether_74 rfl (by decide) (by omega) ?_ | refine zs_iincF (pc := 74) C dX0_bringTogether_74 rfl (by decide) (fun z74 hz741 hz742 => ?_)
              dsimp only [zset, zclr, znone]
              refine zs_goto (tgt := 15) (pc := 77) C dX0_bringTogether_77 (by decide) ?_
              exact zs_wk (ih15 _ _ (by first | omega | (simp only [zuI_1, zuI_2, zuJ_1, zuJ_2, zuJ_3, zuP_1, zuP_2, zuP_3, zuC_1, zuC_2, reduceIte, Nat.reduceEqDiff, false_and, and_false, true_and, and_true, and_self, or_true, true_or, or_false, false_or]; omega)) (by repeat (first | exact zsm_rf | assumption | refine zsm_C (by decide) ?_ | refine zsm_I (by decide) ?_ | refine zsm_J ?_ | refine zsm_c (by assumption) (by decide) ?_)) (by first | omega | (simp only [zuI_1, zuI_2, zuJ_1, zuJ_2, zuJ_3, zuP_1, zuP_2, zuP_3, zuC_1, zuC_2, reduceIte, Nat.reduceEqDiff, false_and, and_false, true_and, and_true, and_self, or_true, true_or, or_false, false_or]; omega))) (zwk_s rfl (zwk_s rfl (zwk_s rfl (zwk_n (zwk_n (zwk_n zwk_0))))))
            · skip
              refine zs_aload_n (pc := 35) C dX0_bringTogether_35 rfl ?_
              refine zs_iload_n (pc := 36) C dX0_bringTogether_36 rfl ?_
              refine zs_iload_n (pc := 37) C dX0_bringTogether_37 rfl ?_
              refine zVj2 (pc := 38) C dX0_bringTogether_38 v_X0_37 (c_X7_pairValue hX (by omega) (by omega)) (by decide) (by decide) ⟨Nat.zero_le _, Nat.zero_le _⟩ (Nat.le_of_ble_eq_true rfl) (fun x38 G38 l38 u38 hp38 => ?_)
              obtain ⟨hz38, hq38⟩ := hp38
              refine zs_lstore (pc := 41) C dX0_bringTogether_41 (by decide) ?_
              dsimp only [zset, zclr, znone]
              refine zs_aload_n (pc := 43) C dX0_bringTogether_43 rfl ?_
              refine zs_getf (pc := 44) C dX0_bringTogether_44 w_X0_18 f_1_2 (by decide) ?_
              refine zs_iload_n (pc := 47) C dX0_bringTogether_47 rfl ?_
              refine zs_iconst (pc := 48) C dX0_bringTogether_48 (by decide) ?_
              first | refine zs_imul (pc := 49) C dX0_bringTogether_49 (by omega) ?_ | refine zs_imulF (pc := 49) C dX0_bringTogether_49 (fun z49 hz491 hz492 => ?_)
              refine zs_iload_n (pc := 50) C dX0_bringTogether_50 rfl ?_
              first | refine zs_iadd (pc := 51) C dX0_bringTogether_51 (by omega) ?_ | refine zs_iaddF (pc := 51) C dX0_bringTogether_51 (fun z51 hz511 hz512 => ?_)
              refine zs_lload (pc := 52) C dX0_bringTogether_52 rfl ?_
              refine zs_ldc2 (n := -9223372036854775808) (pc := 54) C dX0_bringTogether_54 q_X0_41 (by decide) (by decide) ?_
              refine zs_lcmp (pc := 57) C dX0_bringTogether_57 (fun z57 hz57 => ?_)
              refine zs_if_ne (tgt := 65) (pc := 58) C dX0_bringTogether_58 (by decide) (fun h58 => ?_) (fun h58 => ?_)
              · skip
                refine zs_lload (pc := 65) C dX0_bringTogether_65 rfl ?_
                refine zs_last (r := 2013) (pc := 67) C dX0_bringTogether_67 a_13 (by decide) (by omega) rfl ?_
                first | refine zs_iinc (pc := 68) C dX0_bringTogether_68 rfl (by decide) (by omega) ?_ | refine zs_iincF (pc := 68) C dX0_bringTogether_68 rfl (by decide) (fun z68 hz681 hz682 => ?_)
                dsimp only [zset, zclr, znone]
                refine zs_goto (tgt := 27) (pc := 71) C dX0_bringTogether_71 (by decide) ?_
                exact zs_wk (ih27 _ _ (by first | omega | (simp only [zuI_1, zuI_2, zuJ_1, zuJ_2, zuJ_3, zuP_1, zuP_2, zuP_3, zuC_1, zuC_2, reduceIte, Nat.reduceEqDiff, false_and, and_false, true_and, and_true, and_self, or_true, true_or, or_false, false_or]; omega)) (by repeat (first | exact zsm_rf | assumption | refine zsm_C (by decide) ?_ | refine zsm_I (by decide) ?_ | refine zsm_J ?_ | refine zsm_c (by assumption) (by decide) ?_)) (by first | omega | (simp only [zuI_1, zuI_2, zuJ_1, zuJ_2, zuJ_3, zuP_1, zuP_2, zuP_3, zuC_1, zuC_2, reduceIte, Nat.reduceEqDiff, false_and, and_false, true_and, and_true, and_self, or_true, true_or, or_false, false_or]; omega))) (zwk_s rfl (zwk_s rfl (zwk_s rfl (zwk_s rfl (zwk_n (zwk_n zwk_0))))))
              · skip
                refine zs_lconst (n := 0) (pc := 61) C dX0_bringTogether_61 rfl (by decide) ?_
                refine zs_goto (tgt := 67) (pc := 62) C dX0_bringTogether_62 (by decide) ?_
                refine zs_last (r := 2013) (pc := 67) C dX0_bringTogether_67 a_13 (by decide) (by omega) rfl ?_
                first | refine zs_iinc (pc := 68) C dX0_bringTogether_68 rfl (by decide) (by omega) ?_ | refine zs_iincF (pc := 68) C dX0_bringTogether_68 rfl (by decide) (fun z68 hz681 hz682 => ?_)
                dsimp only [zset, zclr, znone]
                refine zs_goto (tgt := 27) (pc := 71) C dX0_bringTogether_71 (by decide) ?_
                exact zs_wk (ih27 _ _ (by first | omega | (simp only [zuI_1, zuI_2, zuJ_1, zuJ_2, zuJ_3, zuP_1, zuP_2, zuP_3, zuC_1, zuC_2, reduceIte, Nat.reduceEqDiff, false_and, and_false, true_and, and_true, and_self, or_true, true_or, or_false, false_or]; omega)) (by repeat (first | exact zsm_rf | assumption | refine zsm_C (by decide) ?_ | refine zsm_I (by decide) ?_ | refine zsm_J ?_ | refine zsm_c (by assumption) (by decide) ?_)) (by first | omega | (simp only [zuI_1, zuI_2, zuJ_1, zuJ_2, zuJ_3, zuP_1, zuP_2, zuP_3, zuC_1, zuC_2, reduceIte, Nat.reduceEqDiff, false_and, and_false, true_and, and_true, and_self, or_true, true_or, or_false, false_or]; omega))) (zwk_s rfl (zwk_s rfl (zwk_s rfl (zwk_s rfl (zwk_n (zwk_n zwk_0))))))
        exact zs_wk (L27 _ _ _ (by first | omega | (simp only [zuI_1, zuI_2, zuJ_1, zuJ_2, zuJ_3, zuP_1, zuP_2, zuP_3, zuC_1, zuC_2, reduceIte, Nat.reduceEqDiff, false_and, and_false, true_and, and_true, and_self, or_true, true_or, or_false, false_or]; omega)) (by repeat (first | exact zsm_rf | assumption | refine zsm_C (by decide) ?_ | refine zsm_I (by decide) ?_ | refine zsm_J ?_ | refine zsm_c (by assumption) (by decide) ?_)) (Nat.lt_succ_self _)) (zwk_s rfl (zwk_s rfl (zwk_s rfl (zwk_s rfl (zwk_n (zwk_n zwk_0))))))
  exact zs_wk (L15 _ _ _ (by first | omega | (simp only [zuI_1, zuI_2, zuJ_1, zuJ_2, zuJ_3, zuP_1, zuP_2, zuP_3, zuC_1, zuC_2, reduceIte, Nat.reduceEqDiff, false_and, and_false, true_and, and_true, and_self, or_true, true_or, or_false, false_or]; omega)) (by repeat (first | exact zsm_rf | assumption | refine zsm_C (by decide) ?_ | refine zsm_I (by decide) ?_ | refine zsm_J ?_ | refine zsm_c (by assumption) (by decide) ?_)) (Nat.lt_succ_self _)) (zwk_s rfl (zwk_s rfl (zwk_s rfl (zwk_n (zwk_n (zwk_n zwk_0))))))
