set_option maxHeartbeats 4000000 in
set_option maxRecDepth 100000 in
theorem c_X8_putFour {l : Launch} {Γ : zΓ} {G : zH} {w : Nat} {a : Int} (hX : zXs Γ) (hk : G.1 901 w 0 + 4 ≤ 700) : zMet l Γ yX8_putFour cX8_putFour 3 none 0 [zr 9 w, zi a] G (zpv (fun G' => zsn [901, 2055] G G' ∧ (G'.1 901 w 0 = G.1 901 w 0 + 4))) := by
  refine zMet_of RX8 hX (by decide) rfl (Nat.le_of_ble_eq_true rfl) ?_
  intro p e s m args below meth c C hr hlk
  show Z p l e (zrm 0) s m args below meth c Γ 3 0 0 (MQ below (zQc Γ (zpv (fun G' => zsn [901, 2055] G G' ∧ (G'.1 901 w 0 = G.1 901 w 0 + 4)))) args s 0 0 (zA Γ)) 0 [some (zr 9 w), some (zi a), none] [] G
  refine zs_loc 1 rfl (fun ha1 hb1 => ?_)
  refine zs_bipush (pc := 0) C dX8_putFour_0 (by decide) (by decide) ?_
  refine zs_istore_n (pc := 2) C dX8_putFour_2 (by decide) ?_
  dsimp only [zset, zclr, znone]
  have L3 : ∀ (nn : Nat) (x2 : Int) (G1 : zH), (((x2 = 24 ∧ G1.1 901 w 0 = G.1 901 w 0) ∨ (x2 = 16 ∧ G1.1 901 w 0 = G.1 901 w 0 + 1) ∨ (x2 = 8 ∧ G1.1 901 w 0 = G.1 901 w 0 + 2) ∨ (x2 = 0 ∧ G1.1 901 w 0 = G.1 901 w 0 + 3) ∨ (x2 = -8 ∧ G1.1 901 w 0 = G.1 901 w 0 + 4))) → (zsn [901, 2055] G G1) → (x2 + 8).toNat < nn → Z p l e (zrm 0) s m args below meth c Γ 3 0 0 (MQ below (zQc Γ (zpv (fun G' => zsn [901, 2055] G G' ∧ (G'.1 901 w 0 = G.1 901 w 0 + 4)))) args s 0 0 (zA Γ)) 3 [some (zr 9 w), some (zi a), some (zi x2)] [] G1 := by
    intro nn
    induction nn with
    | zero => intro x2 G1 h3_0 h3_1 hm; exact absurd hm (Nat.not_lt_zero _)
    | succ nn ih3 =>
      intro x2 G1 h3_0 h3_1 hm3
      refine zs_iload_n (pc := 3) C dX8_putFour_3 rfl ?_
      refine zs_if_lt (tgt := 49) (pc := 4) C dX8_putFour_4 (by decide) (fun h4 => ?_) (fun h4 => ?_)
      · skip
        exact zs_vret (pc := 49) C hr hlk dX8_putFour_49 ⟨by repeat (first | exact zsn_rf | assumption | refine zsn_C (by decide) ?_ | refine zsn_I (by decide) ?_ | refine zsn_J ?_ | refine zsn_P ?_ | refine zsn_m (by assumption) (by decide) ?_ | refine zsn_c (by assumption) (by decide) ?_), by first | omega | (simp only [zuI_1, zuI_2, zuJ_1, zuJ_2, zuJ_3, zuP_1, zuP_2, zuP_3, zuC_1, zuC_2, reduceIte, Nat.reduceEqDiff, false_and, and_false, true_and, and_true, and_self, or_true, true_or, or_false, false_or]; omega)⟩
      · skip
        refine zs_aload_n (pc := 7) C dX8_putFour_7 rfl ?_
        refine zs_geti (r := 901) (pc := 8) C dX8_putFour_8 w_X8_67 f_9_1 rfl (r_901 0) (fun v8 e8 l8 u8 => ?_)
        refine zs_sipush (pc := 11) C dX8_putFour_11 (by decide) (by decide) ?_
        refine zs_icmp_ge (tgt := 49) (pc := 14) C dX8_putFour_14 (by decide) (fun h14 => ?_) (fun h14 => ?_)
        · skip
          exact zs_vret (pc := 49) C hr hlk dX8_putFour_49 ⟨by repeat (first | exact zsn_rf | assumption | refine zsn_C (by decide) ?_ | refine zsn_I (by decide) ?_ | refine zsn_J ?_ | refine zsn_P ?_ | refine zsn_m (by assumption) (by decide) ?_ | refine zsn_c (by assumption) (by decide) ?_), by first | omega | (simp only [zuI_1, zuI_2, zuJ_1, zuJ_2, zuJ_3, zuP_1, zuP_2, zuP_3, zuC_1, zuC_2, reduceIte, Nat.reduceEqDiff, false_and, and_false, true_and, and_true, and_self, or_true, true_or, or_false, false_or]; omega)⟩
        · skip
          refine zs_aload_n (pc := 17) C dX8_putFour_17 rfl ?_
          refine zs_getf (pc := 18) C dX8_putFour_18 w_X8_11 f_9_0 (by decide) ?_
          refine zs_aload_n (pc := 21) C dX8_putFour_21 rfl ?_
          refine zs_geti (r := 901) (pc := 22) C dX8_putFour_22 w_X8_67 f_9_1 rfl (r_901 0) (fun v22 e22 l22 u22 => ?_)
          refine zs_iload_n (pc := 25) C dX8_putFour_25 rfl ?_
          refine zs_iload_n (pc := 26) C dX8_putFour_26 rfl ?_
          refine zs_iushrF (pc := 27) C dX8_putFour_27 (fun z27 hz271 hz272 => ?_)
          refine zs_sipush (pc := 28) C dX8_putFour_28 (by decide) (by decide) ?_
          first | refine zs_iand (pc := 31) C 1 dX8_putFour_31 (by decide) (by decide) (fun z31 hz311 hz312 => ?_) | refine zs_iand (pc := 31) C 2 dX8_putFour_31 (by decide) (by decide) (fun z31 hz311 hz312 => ?_) | refine zs_iand (pc := 31) C 8 dX8_putFour_31 (by decide) (by decide) (fun z31 hz311 hz312 => ?_) | refine zs_iandF (pc := 31) C dX8_putFour_31 (fun z31 hz311 hz312 => ?_)
          refine zs_iast (r := 2055) (pc := 32) C dX8_putFour_32 a_55 (by decide) (by omega) rfl (r_2055 _) (by omega) ?_
          refine zs_aload_n (pc := 33) C dX8_putFour_33 rfl ?_
          refine zs_dupa (pc := 34) C dX8_putFour_34 ?_
          refine zs_geti (r := 901) (pc := 35) C dX8_putFour_35 w_X8_67 f_9_1 rfl (r_901 0) (fun v35 e35 l35 u35 => ?_)
          try simp only [zuI_1, zuI_2, zuJ_1, zuJ_2, zuJ_3, zuP_1, zuP_2, zuP_3, zuC_1, zuC_2, reduceIte, Nat.reduceEqDiff, false_and, and_false, true_and, and_true, and_self, or_true, true_or, or_false, false_or] at e35
          refine zs_iconst (pc := 38) C dX8_putFour_38 (by decide) ?_
          first | refine zs_iadd (pc := 39) C dX8_putFour_39 (by omega) ?_ | refine zs_iaddF (pc := 39) C dX8_putFour_39 (fun z39 hz391 hz392 => ?_)
          refine zs_puti (r := 901) (pc := 40) C dX8_putFour_40 w_X8_67 f_9_1 rfl (r_901 0) (by omega) ?_
          first | refine zs_iinc (pc := 43) C dX8_putFour_43 rfl (by decide) (by omega) ?_ | refine zs_iincF (pc := 43) C dX8_putFour_43 rfl (by decide) (fun z43 hz431 hz432 => ?_)
          dsimp only [zset, zclr, znone]
          refine zs_goto (tgt := 3) (pc := 46) C dX8_putFour_46 (by decide) ?_
          exact zs_wk (ih3 _ _ (by first | omega | (simp only [zuI_1, zuI_2, zuJ_1, zuJ_2, zuJ_3, zuP_1, zuP_2, zuP_3, zuC_1, zuC_2, reduceIte, Nat.reduceEqDiff, false_and, and_false, true_and, and_true, and_self, or_true, true_or, or_false, false_or]; omega)) (by repeat (first | exact zsn_rf | assumption | refine zsn_C (by decide) ?_ | refine zsn_I (by decide) ?_ | refine zsn_J ?_ | refine zsn_P ?_ | refine zsn_m (by assumption) (by decide) ?_ | refine zsn_c (by assumption) (by decide) ?_)) (by first | omega | (simp only [zuI_1, zuI_2, zuJ_1, zuJ_2, zuJ_3, zuP_1, zuP_2, zuP_3, zuC_1, zuC_2, reduceIte, Nat.reduceEqDiff, false_and, and_false, true_and, and_true, and_self, or_true, true_or, or_false, false_or]; omega))) (zwk_s rfl (zwk_s rfl (zwk_s rfl zwk_0)))
  exact zs_wk (L3 _ _ _ (by first | omega | (simp only [zuI_1, zuI_2, zuJ_1, zuJ_2, zuJ_3, zuP_1, zuP_2, zuP_3, zuC_1, zuC_2, reduceIte, Nat.reduceEqDiff, false_and, and_false, true_and, and_true, and_self, or_true, true_or, or_false, false_or]; omega)) (by repeat (first | exact zsn_rf | assumption | refine zsn_C (by decide) ?_ | refine zsn_I (by decide) ?_ | refine zsn_J ?_ | refine zsn_P ?_ | refine zsn_m (by assumption) (by decide) ?_ | refine zsn_c (by assumption) (by decide) ?_)) (Nat.lt_succ_self _)) (zwk_s rfl (zwk_s rfl (zwk_s rfl zwk_0)))

set_option maxHeartbeats 4000000 in
set_option maxRecDepth 100000 in
theorem c_X8_feed {l : Launch} {Γ : zΓ} {G : zH} {w : Nat} {a1 a2 a3 a4 a5 : Int} (hX : zXs Γ)  : zMet l Γ yX8_feed cX8_feed 6 (some .int) 1 [zr 9 w, zi a1, zi a2, zi a3, zi a4, zi a5] G (zpi (fun x G' => zsn [901, 2055] G G' ∧ ((G.1 901 w 0 + 20 > 700 → x = -1 ∧ G'.1 901 w 0 = G.1 901 w 0) ∧ (G.1 901 w 0 + 20 ≤ 700 → x = G.1 901 w 0 + 20 ∧ G'.1 901 w 0 = G.1 901 w 0 + 20)))) := by
  refine zMet_of RX8 hX (by decide) rfl (Nat.le_of_ble_eq_true rfl) ?_
  intro p e s m args below meth c C hr hlk
  show Z p l e (zrm 1) s m args below meth c Γ 6 0 0 (MQ below (zQc Γ (zpi (fun x G' => zsn [901, 2055] G G' ∧ ((G.1 901 w 0 + 20 > 700 → x = -1 ∧ G'.1 901 w 0 = G.1 901 w 0) ∧ (G.1 901 w 0 + 20 ≤ 700 → x = G.1 901 w 0 + 20 ∧ G'.1 901 w 0 = G.1 901 w 0 + 20))))) args s 0 0 (zA Γ)) 0 [some (zr 9 w), some (zi a1), some (zi a2), some (zi a3), some (zi a4), some (zi a5)] [] G
  refine zs_loc 1 rfl (fun ha1 hb1 => ?_)
  refine zs_loc 2 rfl (fun ha2 hb2 => ?_)
  refine zs_loc 3 rfl (fun ha3 hb3 => ?_)
  refine zs_loc 4 rfl (fun ha4 hb4 => ?_)
  refine zs_loc 5 rfl (fun ha5 hb5 => ?_)
  refine zs_aload_n (pc := 0) C dX8_feed_0 rfl ?_
  refine zs_geti (r := 901) (pc := 1) C dX8_feed_1 w_X8_67 f_9_1 rfl (r_901 0) (fun v1 e1 l1 u1 => ?_)
  refine zs_bipush (pc := 4) C dX8_feed_4 (by decide) (by decide) ?_
  first | refine zs_iadd (pc := 6) C dX8_feed_6 (by omega) ?_ | refine zs_iaddF (pc := 6) C dX8_feed_6 (fun z6 hz61 hz62 => ?_)
  refine zs_sipush (pc := 7) C dX8_feed_7 (by decide) (by decide) ?_
  refine zs_icmp_le (tgt := 15) (pc := 10) C dX8_feed_10 (by decide) (fun h10 => ?_) (fun h10 => ?_)
  · skip
    refine zs_aload_n (pc := 15) C dX8_feed_15 rfl ?_
    refine zs_iload_n (pc := 16) C dX8_feed_16 rfl ?_
    refine zVv1 (pc := 17) C dX8_feed_17 v_X8_70 (c_X8_putFour hX (by omega)) (by decide) (by decide) ⟨Nat.zero_le _, Nat.zero_le _⟩ (Nat.le_of_ble_eq_true rfl) (fun G17 hp17 => ?_)
    obtain ⟨hz17, hq17⟩ := hp17
    refine zs_aload_n (pc := 20) C dX8_feed_20 rfl ?_
    refine zs_iload_n (pc := 21) C dX8_feed_21 rfl ?_
    refine zVv1 (pc := 22) C dX8_feed_22 v_X8_70 (c_X8_putFour hX (by omega)) (by decide) (by decide) ⟨Nat.zero_le _, Nat.zero_le _⟩ (Nat.le_of_ble_eq_true rfl) (fun G22 hp22 => ?_)
    obtain ⟨hz22, hq22⟩ := hp22
    refine zs_aload_n (pc := 25) C dX8_feed_25 rfl ?_
    refine zs_iload_n (pc := 26) C dX8_feed_26 rfl ?_
    refine zVv1 (pc := 27) C dX8_feed_27 v_X8_70 (c_X8_putFour hX (by omega)) (by decide) (by decide) ⟨Nat.zero_le _, Nat.zero_le _⟩ (Nat.le_of_ble_eq_true rfl) (fun G27 hp27 => ?_)
    obtain ⟨hz27, hq27⟩ := hp27
    refine zs_aload_n (pc := 30) C dX8_feed_30 rfl ?_
    refine zs_iload (pc := 31) C dX8_feed_31 rfl ?_
    refine zVv1 (pc := 33) C dX8_feed_33 v_X8_70 (c_X8_putFour hX (by omega)) (by decide) (by decide) ⟨Nat.zero_le _, Nat.zero_le _⟩ (Nat.le_of_ble_eq_true rfl) (fun G33 hp33 => ?_)
    obtain ⟨hz33, hq33⟩ := hp33
    refine zs_aload_n (pc := 36) C dX8_feed_36 rfl ?_
    refine zs_iload (pc := 37) C dX8_feed_37 rfl ?_
    refine zVv1 (pc := 39) C dX8_feed_39 v_X8_70 (c_X8_putFour hX (by omega)) (by decide) (by decide) ⟨Nat.zero_le _, Nat.zero_le _⟩ (Nat.le_of_ble_eq_true rfl) (fun G39 hp39 => ?_)
    obtain ⟨hz39, hq39⟩ := hp39
    refine zs_aload_n (pc := 42) C dX8_feed_42 rfl ?_
    refine zs_geti (r := 901) (pc := 43) C dX8_feed_43 w_X8_67 f_9_1 rfl (r_901 0) (fun v43 e43 l43 u43 => ?_)
    exact zs_iret (pc := 46) C hr hlk dX8_feed_46 ⟨by repeat (first | exact zsn_rf | assumption | refine zsn_C (by decide) ?_ | refine zsn_I (by decide) ?_ | refine zsn_J ?_ | refine zsn_P ?_ | refine zsn_m (by assumption) (by decide) ?_ | refine zsn_c (by assumption) (by decide) ?_), by first | omega | (simp only [zuI_1, zuI_2, zuJ_1, zuJ_2, zuJ_3, zuP_1, zuP_2, zuP_3, zuC_1, zuC_2, reduceIte, Nat.reduceEqDiff, false_and, and_false, true_and, and_true, and_self, or_true, true_or, or_false, false_or]; omega)⟩
  · skip
    refine zs_iconst (pc := 13) C dX8_feed_13 (by decide) ?_
    exact zs_iret (pc := 14) C hr hlk dX8_feed_14 ⟨by repeat (first | exact zsn_rf | assumption | refine zsn_C (by decide) ?_ | refine zsn_I (by decide) ?_ | refine zsn_J ?_ | refine zsn_P ?_ | refine zsn_m (by assumption) (by decide) ?_ | refine zsn_c (by assumption) (by decide) ?_), by first | omega | (simp only [zuI_1, zuI_2, zuJ_1, zuJ_2, zuJ_3, zuP_1, zuP_2, zuP_3, zuC_1, zuC_2, reduceIte, Nat.reduceEqDiff, false_and, and_false, true_and, and_true, and_self, or_true, true_or, or_false, false_or]; omega)⟩

set_option maxHeartbeats 4000000 in
set_option maxRecDepth 100000 in
theorem c_X8_text {l : Launch} {Γ : zΓ} {G : zH} {w : Nat} {k : Int} (hX : zXs Γ)  : zMet l Γ yX8_text cX8_text 3 (some .int) 7 [zr 9 w, zi k] G (zpi (fun x G' => zsn [402, 403, 404, 405, 406, 407, 408, 409, 410, 411, 412, 413, 2025, 206, 207, 2014, 2015, 2016, 2017, 2036, 2037, 2038, 2039, 2040, 2041, 2042, 2043, 609, 610, 611, 612, 704, 705, 706, 2045, 2046, 2047, 901, 912, 913, 510, 2048, 2049, 2050, 2051, 2052, 2053, 809, 810, 811, 812, 813, 910, 911, 2020] G G' ∧ ((0 ≤ k ∧ k ≤ G.1 901 w 0 → G'.1 901 w 0 = 0) ∧ (¬ (0 ≤ k ∧ k ≤ G.1 901 w 0) → G'.1 901 w 0 = G.1 901 w 0)))) := by
  refine zMet_of RX8 hX (by decide) rfl (Nat.le_of_ble_eq_true rfl) ?_
  intro p e s m args below meth c C hr hlk
  show Z p l e (zrm 7) s m args below meth c Γ 3 0 0 (MQ below (zQc Γ (zpi (fun x G' => zsn [402, 403, 404, 405, 406, 407, 408, 409, 410, 411, 412, 413, 2025, 206, 207, 2014, 2015, 2016, 2017, 2036, 2037, 2038, 2039, 2040, 2041, 2042, 2043, 609, 610, 611, 612, 704, 705, 706, 2045, 2046, 2047, 901, 912, 913, 510, 2048, 2049, 2050, 2051, 2052, 2053, 809, 810, 811, 812, 813, 910, 911, 2020] G G' ∧ ((0 ≤ k ∧ k ≤ G.1 901 w 0 → G'.1 901 w 0 = 0) ∧ (¬ (0 ≤ k ∧ k ≤ G.1 901 w 0) → G'.1 901 w 0 = G.1 901 w 0))))) args s 0 0 (zA Γ)) 0 [some (zr 9 w), some (zi k), none] [] G
  refine zs_loc 1 rfl (fun ha1 hb1 => ?_)
  refine zs_iload_n (pc := 0) C dX8_text_0 rfl ?_
  refine zs_if_lt (tgt := 12) (pc := 1) C dX8_text_1 (by decide) (fun h1 => ?_) (fun h1 => ?_)
  · skip
    refine zs_bipush (pc := 12) C dX8_text_12 (by decide) (by decide) ?_
    exact zs_iret (pc := 14) C hr hlk dX8_text_14 ⟨by repeat (first | exact zsn_rf | assumption | refine zsn_C (by decide) ?_ | refine zsn_I (by decide) ?_ | refine zsn_J ?_ | refine zsn_P ?_ | refine zsn_m (by assumption) (by decide) ?_ | refine zsn_c (by assumption) (by decide) ?_), by first | omega | (simp only [zuI_1, zuI_2, zuJ_1, zuJ_2, zuJ_3, zuP_1, zuP_2, zuP_3, zuC_1, zuC_2, reduceIte, Nat.reduceEqDiff, false_and, and_false, true_and, and_true, and_self, or_true, true_or, or_false, false_or]; omega)⟩
  · skip
    refine zs_iload_n (pc := 4) C dX8_text_4 rfl ?_
    refine zs_aload_n (pc := 5) C dX8_text_5 rfl ?_
    refine zs_geti (r := 901) (pc := 6) C dX8_text_6 w_X8_67 f_9_1 rfl (r_901 0) (fun v6 e6 l6 u6 => ?_)
    refine zs_icmp_le (tgt := 15) (pc := 9) C dX8_text_9 (by decide) (fun h9 => ?_) (fun h9 => ?_)
    · skip
      refine zs_aload_n (pc := 15) C dX8_text_15 rfl ?_
      refine zs_iconst (pc := 16) C dX8_text_16 (by decide) ?_
      refine zs_puti (r := 901) (pc := 17) C dX8_text_17 w_X8_67 f_9_1 rfl (r_901 0) (by omega) ?_
      refine zs_aload_n (pc := 20) C dX8_text_20 rfl ?_
      refine zs_getf (pc := 21) C dX8_text_21 w_X8_18 f_9_2 (by decide) ?_
      refine zs_aload_n (pc := 24) C dX8_text_24 rfl ?_
      refine zs_getf (pc := 25) C dX8_text_25 w_X8_11 f_9_0 (by decide) ?_
      refine zs_iload_n (pc := 28) C dX8_text_28 rfl ?_
      refine zVi2 (pc := 29) C dX8_text_29 v_X8_74 (c_X3_readAll hX ) (by decide) (by decide) ⟨Nat.zero_le _, Nat.zero_le _⟩ (Nat.le_of_ble_eq_true rfl) (fun x29 G29 l29 u29 hp29 => ?_)
      obtain ⟨hz29, hq29⟩ := hp29
      try simp only [zuI_1, zuI_2, zuJ_1, zuJ_2, zuJ_3, zuP_1, zuP_2, zuP_3, zuC_1, zuC_2, reduceIte, Nat.reduceEqDiff, false_and, and_false, true_and, and_true, and_self, or_true, true_or, or_false, false_or] at hq29
      have tr29_901 := zsm_at hz29 901 w 0 (by decide)
      try simp only [zuI_1, zuI_2, zuJ_1, zuJ_2, zuJ_3, zuP_1, zuP_2, zuP_3, zuC_1, zuC_2, reduceIte, Nat.reduceEqDiff, false_and, and_false, true_and, and_true, and_self, or_true, true_or, or_false, false_or] at tr29_901
      refine zs_istore_n (pc := 32) C dX8_text_32 (by decide) ?_
      dsimp only [zset, zclr, znone]
      refine zs_aload_n (pc := 33) C dX8_text_33 rfl ?_
      refine zs_aload_n (pc := 34) C dX8_text_34 rfl ?_
      refine zs_getf (pc := 35) C dX8_text_35 w_X8_18 f_9_2 (by decide) ?_
      refine zs_geti (r := 407) (pc := 38) C dX8_text_38 w_X8_78 f_4_7 rfl (r_407 0) (fun v38 e38 l38 u38 => ?_)
      refine zs_puti (r := 912) (pc := 41) C dX8_text_41 w_X8_81 f_9_12 rfl (r_912 0) (by omega) ?_
      refine zs_aload_n (pc := 44) C dX8_text_44 rfl ?_
      refine zs_aload_n (pc := 45) C dX8_text_45 rfl ?_
      refine zs_getf (pc := 46) C dX8_text_46 w_X8_18 f_9_2 (by decide) ?_
      refine zs_geti (r := 408) (pc := 49) C dX8_text_49 w_X8_82 f_4_8 rfl (r_408 0) (fun v49 e49 l49 u49 => ?_)
      try simp only [zuI_1, zuI_2, zuJ_1, zuJ_2, zuJ_3, zuP_1, zuP_2, zuP_3, zuC_1, zuC_2, reduceIte, Nat.reduceEqDiff, false_and, and_false, true_and, and_true, and_self, or_true, true_or, or_false, false_or] at e49
      refine zs_puti (r := 913) (pc := 52) C dX8_text_52 w_X8_63 f_9_13 rfl (r_913 0) (by omega) ?_
      refine zs_aload_n (pc := 55) C dX8_text_55 rfl ?_
      refine zs_geti (r := 912) (pc := 56) C dX8_text_56 w_X8_81 f_9_12 rfl (r_912 0) (fun v56 e56 l56 u56 => ?_)
      try simp only [zuI_1, zuI_2, zuJ_1, zuJ_2, zuJ_3, zuP_1, zuP_2, zuP_3, zuC_1, zuC_2, reduceIte, Nat.reduceEqDiff, false_and, and_false, true_and, and_true, and_self, or_true, true_or, or_false, false_or] at e56
      refine zs_if_eq (tgt := 64) (pc := 59) C dX8_text_59 (by decide) (fun h59 => ?_) (fun h59 => ?_)
      · skip
        refine zs_aload_n (pc := 64) C dX8_text_64 rfl ?_
        refine zs_aload_n (pc := 65) C dX8_text_65 rfl ?_
        refine zs_getf (pc := 66) C dX8_text_66 w_X8_18 f_9_2 (by decide) ?_
        refine zs_aload_n (pc := 69) C dX8_text_69 rfl ?_
        refine zs_getd (r := 903) (pc := 70) C dX8_text_70 w_X8_25 f_9_3 (by decide) rfl (fun v70 e70 t70 => ?_)
        try simp only [hz29.2, zuI_1, zuI_2, zuJ_1, zuJ_2, zuJ_3, zuP_1, zuP_2, zuP_3, zuC_1, zuC_2, reduceIte, Nat.reduceEqDiff, false_and, and_false, true_and, and_true, and_self, or_true, true_or, or_false, false_or] at e70
        refine zVa1 (pc := 73) C dX8_text_73 v_X8_83 (c_X3_handOver hX ) (by decide) (by decide) ⟨Nat.zero_le _, Nat.zero_le _⟩ (Nat.le_of_ble_eq_true rfl) (fun x73 G73 hp73 => ?_)
        obtain ⟨hz73, hq73⟩ := hp73
        try simp only [zuI_1, zuI_2, zuJ_1, zuJ_2, zuJ_3, zuP_1, zuP_2, zuP_3, zuC_1, zuC_2, reduceIte, Nat.reduceEqDiff, false_and, and_false, true_and, and_true, and_self, or_true, true_or, or_false, false_or] at hq73
        have tr73_901 := zsn_at hz73 901 w 0 (by decide)
        try simp only [zuI_1, zuI_2, zuJ_1, zuJ_2, zuJ_3, zuP_1, zuP_2, zuP_3, zuC_1, zuC_2, reduceIte, Nat.reduceEqDiff, false_and, and_false, true_and, and_true, and_self, or_true, true_or, or_false, false_or] at tr73_901
        refine zs_putd (r := 903) (pc := 76) C dX8_text_76 w_X8_25 f_9_3 (by decide) rfl ?_
        refine zs_aload_n (pc := 79) C dX8_text_79 rfl ?_
        refine zs_getf (pc := 80) C dX8_text_80 w_X8_34 f_9_4 (by decide) ?_
        refine zs_aload_n (pc := 83) C dX8_text_83 rfl ?_
        refine zs_getd (r := 903) (pc := 84) C dX8_text_84 w_X8_25 f_9_3 (by decide) rfl (fun v84 e84 t84 => ?_)
        try simp only [zuI_1, zuI_2, zuJ_1, zuJ_2, zuJ_3, zuP_1, zuP_2, zuP_3, zuC_1, zuC_2, reduceIte, Nat.reduceEqDiff, false_and, and_false, true_and, and_true, and_self, or_true, true_or, or_false, false_or] at e84
        refine zVv1 (pc := 87) C dX8_text_87 v_X8_87 (c_X7_begin hX ) (by decide) (by decide) ⟨Nat.zero_le _, Nat.zero_le _⟩ (Nat.le_of_ble_eq_true rfl) (fun G87 hp87 => ?_)
        obtain ⟨hz87, hq87⟩ := hp87
        try simp only [zuI_1, zuI_2, zuJ_1, zuJ_2, zuJ_3, zuP_1, zuP_2, zuP_3, zuC_1, zuC_2, reduceIte, Nat.reduceEqDiff, false_and, and_false, true_and, and_true, and_self, or_true, true_or, or_false, false_or] at hq87
        have tr87_901 := zsn_at hz87 901 w 0 (by decide)
        try simp only [zuI_1, zuI_2, zuJ_1, zuJ_2, zuJ_3, zuP_1, zuP_2, zuP_3, zuC_1, zuC_2, reduceIte, Nat.reduceEqDiff, false_and, and_false, true_and, and_true, and_self, or_true, true_or, or_false, false_or] at tr87_901
        refine zs_aload_n (pc := 90) C dX8_text_90 rfl ?_
        refine zs_iconst (pc := 91) C dX8_text_91 (by decide) ?_
        refine zs_putz (r := 911) (pc := 92) C dX8_text_92 w_X8_90 f_9_11 rfl (r_911 0) (by omega) (by omega) ?_
        refine zs_aload_n (pc := 95) C dX8_text_95 rfl ?_
        refine zs_iconst (pc := 96) C dX8_text_96 (by decide) ?_
        refine zs_puti (r := 910) (pc := 97) C dX8_text_97 w_X8_94 f_9_10 rfl (r_910 0) (by omega) ?_
        refine zs_aload_n (pc := 100) C dX8_text_100 rfl ?_
        refine zs_getf (pc := 101) C dX8_text_101 w_X8_49 f_9_7 (by decide) ?_
        refine zVv0 (pc := 104) C dX8_text_104 v_X8_97 (c_X2_forget hX ) (by decide) (by decide) ⟨Nat.zero_le _, Nat.zero_le _⟩ (Nat.le_of_ble_eq_true rfl) (fun G104 hp104 => ?_)
        obtain ⟨hz104, hq104⟩ := hp104
        try simp only [zuI_1, zuI_2, zuJ_1, zuJ_2, zuJ_3, zuP_1, zuP_2, zuP_3, zuC_1, zuC_2, reduceIte, Nat.reduceEqDiff, false_and, and_false, true_and, and_true, and_self, or_true, true_or, or_false, false_or] at hq104
        have tr104_901 := zsm_at hz104 901 w 0 (by decide)
        try simp only [zuI_1, zuI_2, zuJ_1, zuJ_2, zuJ_3, zuP_1, zuP_2, zuP_3, zuC_1, zuC_2, reduceIte, Nat.reduceEqDiff, false_and, and_false, true_and, and_true, and_self, or_true, true_or, or_false, false_or] at tr104_901
        refine zs_iload_n (pc := 107) C dX8_text_107 rfl ?_
        exact zs_iret (pc := 108) C hr hlk dX8_text_108 ⟨by repeat (first | exact zsn_rf | assumption | refine zsn_C (by decide) ?_ | refine zsn_I (by decide) ?_ | refine zsn_J ?_ | refine zsn_P ?_ | refine zsn_m (by assumption) (by decide) ?_ | refine zsn_c (by assumption) (by decide) ?_), by first | omega | (simp only [zuI_1, zuI_2, zuJ_1, zuJ_2, zuJ_3, zuP_1, zuP_2, zuP_3, zuC_1, zuC_2, reduceIte, Nat.reduceEqDiff, false_and, and_false, true_and, and_true, and_self, or_true, true_or, or_false, false_or]; omega)⟩
      · skip
        refine zs_iconst (pc := 62) C dX8_text_62 (by decide) ?_
        exact zs_iret (pc := 63) C hr hlk dX8_text_63 ⟨by repeat (first | exact zsn_rf | assumption | refine zsn_C (by decide) ?_ | refine zsn_I (by decide) ?_ | refine zsn_J ?_ | refine zsn_P ?_ | refine zsn_m (by assumption) (by decide) ?_ | refine zsn_c (by assumption) (by decide) ?_), by first | omega | (simp only [zuI_1, zuI_2, zuJ_1, zuJ_2, zuJ_3, zuP_1, zuP_2, zuP_3, zuC_1, zuC_2, reduceIte, Nat.reduceEqDiff, false_and, and_false, true_and, and_true, and_self, or_true, true_or, or_false, false_or]; omega)⟩
    · skip
      refine zs_bipush (pc := 12) C dX8_text_12 (by decide) (by decide) ?_
      exact zs_iret (pc := 14) C hr hlk dX8_text_14 ⟨by repeat (first | exact zsn_rf | assumption | refine zsn_C (by decide) ?_ | refine zsn_I (by decide) ?_ | refine zsn_J ?_ | refine zsn_P ?_ | refine zsn_m (by assumption) (by decide) ?_ | refine zsn_c (by assumption) (by decide) ?_), by first | omega | (simp only [zuI_1, zuI_2, zuJ_1, zuJ_2, zuJ_3, zuP_1, zuP_2, zuP_3, zuC_1, zuC_2, reduceIte, Nat.reduceEqDiff, false_and, and_false, true_and, and_true, and_self, or_true, true_or, or_false, false_or]; omega)⟩

set_option maxHeartbeats 4000000 in
set_option maxRecDepth 100000 in
theorem c_X8_fault {l : Launch} {Γ : zΓ} {G : zH} {w : Nat} {k : Int} (hX : zXs Γ)  : zMet l Γ yX8_fault cX8_fault 2 (some .int) 0 [zr 9 w, zi k] G (zpi (fun x G' => G' = G ∧ True)) := by
  refine zMet_of RX8 hX (by decide) rfl (Nat.le_of_ble_eq_true rfl) ?_
  intro p e s m args below meth c C hr hlk
  show Z p l e (zrm 0) s m args below meth c Γ 2 0 0 (MQ below (zQc Γ (zpi (fun x G' => G' = G ∧ True))) args s 0 0 (zA Γ)) 0 [some (zr 9 w), some (zi k)] [] G
  refine zs_loc 1 rfl (fun ha1 hb1 => ?_)
  refine zs_iload_n (pc := 0) C dX8_fault_0 rfl ?_
  refine zs_name (fun y1 ey1 => ?_)
  rcases (show y1 = 0 ∨ y1 = 1 ∨ (y1 ≠ 0 ∧ y1 ≠ 1) by omega) with h1 | h1 | h1
  · skip
    refine zs_look (tgt := 28) (pc := 1) C dX8_fault_1 (by decide) (by first | (rw [h1]; done) | (rw [h1]; rfl)) (by decide) ?_
    refine zs_aload_n (pc := 28) C dX8_fault_28 rfl ?_
    refine zs_geti (r := 912) (pc := 29) C dX8_fault_29 w_X8_81 f_9_12 rfl (r_912 0) (fun v29 e29 l29 u29 => ?_)
    exact zs_iret (pc := 32) C hr hlk dX8_fault_32 ⟨rfl, trivial⟩
  · skip
    refine zs_look (tgt := 33) (pc := 1) C dX8_fault_1 (by decide) (by first | (rw [h1]; done) | (rw [h1]; rfl)) (by decide) ?_
    refine zs_aload_n (pc := 33) C dX8_fault_33 rfl ?_
    refine zs_geti (r := 913) (pc := 34) C dX8_fault_34 w_X8_63 f_9_13 rfl (r_913 0) (fun v34 e34 l34 u34 => ?_)
    exact zs_iret (pc := 37) C hr hlk dX8_fault_37 ⟨rfl, trivial⟩
  · skip
    refine zs_look (off := 37) (tgt := 38) (pc := 1) C dX8_fault_1 (by decide) (by have h9 := h1; simp [Op.lookupswitch.offset]; omega) (by decide) ?_
    refine zs_iconst (pc := 38) C dX8_fault_38 (by decide) ?_
    exact zs_iret (pc := 39) C hr hlk dX8_fault_39 ⟨rfl, trivial⟩

set_option maxHeartbeats 4000000 in
set_option maxRecDepth 100000 in
theorem c_X8_named {l : Launch} {Γ : zΓ} {G : zH} {w : Nat} {a b : Int} (hX : zXs Γ)  : zMet l Γ yX8_named cX8_named 3 (some .int) 1 [zr 9 w, zi a, zi b] G (zpi (fun x G' => G' = G ∧ True)) := by
  refine zMet_of RX8 hX (by decide) rfl (Nat.le_of_ble_eq_true rfl) ?_
  intro p e s m args below meth c C hr hlk
  show Z p l e (zrm 1) s m args below meth c Γ 3 0 0 (MQ below (zQc Γ (zpi (fun x G' => G' = G ∧ True))) args s 0 0 (zA Γ)) 0 [some (zr 9 w), some (zi a), some (zi b)] [] G
  refine zs_loc 1 rfl (fun ha1 hb1 => ?_)
  refine zs_loc 2 rfl (fun ha2 hb2 => ?_)
  refine zs_iload_n (pc := 0) C dX8_named_0 rfl ?_
  refine zs_if_lt (tgt := 9) (pc := 1) C dX8_named_1 (by decide) (fun h1 => ?_) (fun h1 => ?_)
  · skip
    refine zs_iconst (pc := 9) C dX8_named_9 (by decide) ?_
    refine zs_goto (tgt := 22) (pc := 10) C dX8_named_10 (by decide) ?_
    exact zs_iret (pc := 22) C hr hlk dX8_named_22 ⟨rfl, trivial⟩
  · skip
    refine zs_iload_n (pc := 4) C dX8_named_4 rfl ?_
    refine zs_iconst (pc := 5) C dX8_named_5 (by decide) ?_
    refine zs_icmp_lt (tgt := 13) (pc := 6) C dX8_named_6 (by decide) (fun h6 => ?_) (fun h6 => ?_)
    · skip
      refine zs_aload_n (pc := 13) C dX8_named_13 rfl ?_
      refine zs_getd (r := 903) (pc := 14) C dX8_named_14 w_X8_25 f_9_3 (by decide) rfl (fun v14 e14 t14 => ?_)
      refine zs_iload_n (pc := 17) C dX8_named_17 rfl ?_
      refine zs_iload_n (pc := 18) C dX8_named_18 rfl ?_
      refine zVip2 (pc := 19) C dX8_named_19 v_X8_100 (c_X5_find hX (by omega)) (by decide) (by decide) ⟨Nat.zero_le _, Nat.zero_le _⟩ (Nat.le_of_ble_eq_true rfl) (fun x19 l19 u19 hp19 => ?_)
      have hq19 := hp19
      exact zs_iret (pc := 22) C hr hlk dX8_named_22 ⟨rfl, trivial⟩
    · skip
      refine zs_iconst (pc := 9) C dX8_named_9 (by decide) ?_
      refine zs_goto (tgt := 22) (pc := 10) C dX8_named_10 (by decide) ?_
      exact zs_iret (pc := 22) C hr hlk dX8_named_22 ⟨rfl, trivial⟩

set_option maxHeartbeats 4000000 in
set_option maxRecDepth 100000 in
theorem c_X8_did {l : Launch} {Γ : zΓ} {G : zH} {w : Nat} {p0 s0 k : Int} (hX : zXs Γ)  : zMet l Γ yX8_did cX8_did 4 (some .int) 2 [zr 9 w, zi p0, zi s0, zi k] G (zpi (fun x G' => G' = G ∧ True)) := by
  refine zMet_of RX8 hX (by decide) rfl (Nat.le_of_ble_eq_true rfl) ?_
  intro p e s m args below meth c C hr hlk
  show Z p l e (zrm 2) s m args below meth c Γ 4 0 0 (MQ below (zQc Γ (zpi (fun x G' => G' = G ∧ True))) args s 0 0 (zA Γ)) 0 [some (zr 9 w), some (zi p0), some (zi s0), some (zi k)] [] G
  refine zs_loc 1 rfl (fun ha1 hb1 => ?_)
  refine zs_loc 2 rfl (fun ha2 hb2 => ?_)
  refine zs_loc 3 rfl (fun ha3 hb3 => ?_)
  refine zs_aload_n (pc := 0) C dX8_did_0 rfl ?_
  refine zs_getd (r := 903) (pc := 1) C dX8_did_1 w_X8_25 f_9_3 (by decide) rfl (fun v1 e1 t1 => ?_)
  refine zs_iload_n (pc := 4) C dX8_did_4 rfl ?_
  refine zs_iload_n (pc := 5) C dX8_did_5 rfl ?_
  refine zVip2 (pc := 6) C dX8_did_6 v_X8_136 (c_X5_hasBoth hX ) (by decide) (by decide) ⟨Nat.zero_le _, Nat.zero_le _⟩ (Nat.le_of_ble_eq_true rfl) (fun x6 l6 u6 hp6 => ?_)
  have hq6 := hp6
  refine zs_if_ne (tgt := 14) (pc := 9) C dX8_did_9 (by decide) (fun h9 => ?_) (fun h9 => ?_)
  · skip
    refine zs_iload_n (pc := 14) C dX8_did_14 rfl ?_
    refine zs_name (fun y15 ey15 => ?_)
    rcases (show y15 = 0 ∨ y15 = 1 ∨ (y15 ≠ 0 ∧ y15 ≠ 1) by omega) with h15 | h15 | h15
    · skip
      refine zs_look (tgt := 40) (pc := 15) C dX8_did_15 (by decide) (by first | (rw [h15]; done) | (rw [h15]; rfl)) (by decide) ?_
      refine zs_aload_n (pc := 40) C dX8_did_40 rfl ?_
      refine zs_getf (pc := 41) C dX8_did_41 w_X8_34 f_9_4 (by decide) ?_
      refine zs_getf (pc := 44) C dX8_did_44 w_X8_139 f_8_2 (by decide) ?_
      refine zs_iload_n (pc := 47) C dX8_did_47 rfl ?_
      refine zs_iconst (pc := 48) C dX8_did_48 (by decide) ?_
      first | refine zs_imul (pc := 49) C dX8_did_49 (by omega) ?_ | refine zs_imulF (pc := 49) C dX8_did_49 (fun z49 hz491 hz492 => ?_)
      refine zs_iload_n (pc := 50) C dX8_did_50 rfl ?_
      first | refine zs_iadd (pc := 51) C dX8_did_51 (by omega) ?_ | refine zs_iaddF (pc := 51) C dX8_did_51 (fun z51 hz511 hz512 => ?_)
      refine zs_iald (r := 2048) (pc := 52) C dX8_did_52 a_48 (by decide) (by omega) rfl (r_2048 _) (fun v52 e52 l52 u52 => ?_)
      exact zs_iret (pc := 53) C hr hlk dX8_did_53 ⟨rfl, trivial⟩
    · skip
      refine zs_look (tgt := 54) (pc := 15) C dX8_did_15 (by decide) (by first | (rw [h15]; done) | (rw [h15]; rfl)) (by decide) ?_
      refine zs_aload_n (pc := 54) C dX8_did_54 rfl ?_
      refine zs_getf (pc := 55) C dX8_did_55 w_X8_34 f_9_4 (by decide) ?_
      refine zs_iload_n (pc := 58) C dX8_did_58 rfl ?_
      refine zs_iload_n (pc := 59) C dX8_did_59 rfl ?_
      refine zVip2 (pc := 60) C dX8_did_60 v_X8_142 (c_X7_leftOf hX (by omega) (by omega)) (by decide) (by decide) ⟨Nat.zero_le _, Nat.zero_le _⟩ (Nat.le_of_ble_eq_true rfl) (fun x60 l60 u60 hp60 => ?_)
      have hq60 := hp60
      exact zs_iret (pc := 63) C hr hlk dX8_did_63 ⟨rfl, trivial⟩
    · skip
      refine zs_look (off := 49) (tgt := 64) (pc := 15) C dX8_did_15 (by decide) (by have h9 := h15; simp [Op.lookupswitch.offset]; omega) (by decide) ?_
      refine zs_iconst (pc := 64) C dX8_did_64 (by decide) ?_
      exact zs_iret (pc := 65) C hr hlk dX8_did_65 ⟨rfl, trivial⟩
  · skip
    refine zs_iconst (pc := 12) C dX8_did_12 (by decide) ?_
    exact zs_iret (pc := 13) C hr hlk dX8_did_13 ⟨rfl, trivial⟩

set_option maxHeartbeats 4000000 in
set_option maxRecDepth 100000 in
theorem c_X8_fine {l : Launch} {Γ : zΓ} {G : zH} {w : Nat} {p0 s0 : Int} (hX : zXs Γ)  : zMet l Γ yX8_fine cX8_fine 3 (some .int) 4 [zr 9 w, zi p0, zi s0] G (zpi (fun x G' => zsn [] G G' ∧ True)) := by
  refine zMet_of RX8 hX (by decide) rfl (Nat.le_of_ble_eq_true rfl) ?_
  intro p e s m args below meth c C hr hlk
  show Z p l e (zrm 4) s m args below meth c Γ 3 0 0 (MQ below (zQc Γ (zpi (fun x G' => zsn [] G G' ∧ True))) args s 0 0 (zA Γ)) 0 [some (zr 9 w), some (zi p0), some (zi s0)] [] G
  refine zs_loc 1 rfl (fun ha1 hb1 => ?_)
  refine zs_loc 2 rfl (fun ha2 hb2 => ?_)
  refine zs_aload_n (pc := 0) C dX8_fine_0 rfl ?_
  refine zs_getd (r := 903) (pc := 1) C dX8_fine_1 w_X8_25 f_9_3 (by decide) rfl (fun v1 e1 t1 => ?_)
  refine zs_iload_n (pc := 4) C dX8_fine_4 rfl ?_
  refine zs_iload_n (pc := 5) C dX8_fine_5 rfl ?_
  refine zVip2 (pc := 6) C dX8_fine_6 v_X8_136 (c_X5_hasBoth hX ) (by decide) (by decide) ⟨Nat.zero_le _, Nat.zero_le _⟩ (Nat.le_of_ble_eq_true rfl) (fun x6 l6 u6 hp6 => ?_)
  have hq6 := hp6
  refine zs_if_eq (tgt := 24) (pc := 9) C dX8_fine_9 (by decide) (fun h9 => ?_) (fun h9 => ?_)
  · skip
    refine zs_iconst (pc := 24) C dX8_fine_24 (by decide) ?_
    exact zs_iret (pc := 25) C hr hlk dX8_fine_25 ⟨by repeat (first | exact zsn_rf | assumption | refine zsn_C (by decide) ?_ | refine zsn_I (by decide) ?_ | refine zsn_J ?_ | refine zsn_P ?_ | refine zsn_m (by assumption) (by decide) ?_ | refine zsn_c (by assumption) (by decide) ?_), trivial⟩
  · skip
    refine zs_aload_n (pc := 12) C dX8_fine_12 rfl ?_
    refine zs_getf (pc := 13) C dX8_fine_13 w_X8_34 f_9_4 (by decide) ?_
    refine zs_iload_n (pc := 16) C dX8_fine_16 rfl ?_
    refine zs_iload_n (pc := 17) C dX8_fine_17 rfl ?_
    refine zVi2 (pc := 18) C dX8_fine_18 v_X8_145 (c_X7_fineOf hX (by omega) (by omega)) (by decide) (by decide) ⟨Nat.zero_le _, Nat.zero_le _⟩ (Nat.le_of_ble_eq_true rfl) (fun x18 G18 l18 u18 hp18 => ?_)
    obtain ⟨hz18, hq18⟩ := hp18
    refine zs_goto (tgt := 25) (pc := 21) C dX8_fine_21 (by decide) ?_
    exact zs_iret (pc := 25) C hr hlk dX8_fine_25 ⟨by repeat (first | exact zsn_rf | assumption | refine zsn_C (by decide) ?_ | refine zsn_I (by decide) ?_ | refine zsn_J ?_ | refine zsn_P ?_ | refine zsn_m (by assumption) (by decide) ?_ | refine zsn_c (by assumption) (by decide) ?_), trivial⟩

set_option maxHeartbeats 4000000 in
set_option maxRecDepth 100000 in
theorem c_X8_law {l : Launch} {Γ : zΓ} {G : zH} {w : Nat} {k p0 s0 : Int} (hX : zXs Γ)  : zMet l Γ yX8_law cX8_law 4 (some .long) 3 [zr 9 w, zi k, zi p0, zi s0] G (zpj (fun x G' => zsn [] G G' ∧ True)) := by
  refine zMet_of RX8 hX (by decide) rfl (Nat.le_of_ble_eq_true rfl) ?_
  intro p e s m args below meth c C hr hlk
  show Z p l e (zrm 3) s m args below meth c Γ 4 0 0 (MQ below (zQc Γ (zpj (fun x G' => zsn [] G G' ∧ True))) args s 0 0 (zA Γ)) 0 [some (zr 9 w), some (zi k), some (zi p0), some (zi s0)] [] G
  refine zs_loc 1 rfl (fun ha1 hb1 => ?_)
  refine zs_loc 2 rfl (fun ha2 hb2 => ?_)
  refine zs_loc 3 rfl (fun ha3 hb3 => ?_)
  refine zs_iload_n (pc := 0) C dX8_law_0 rfl ?_
  refine zs_name (fun y1 ey1 => ?_)
  rcases (show y1 = 0 ∨ y1 = 1 ∨ y1 = 2 ∨ y1 = 3 ∨ (y1 < 0 ∨ 3 < y1) by omega) with h1 | h1 | h1 | h1 | h1
  · skip
    refine zs_tabIn (pc := 1) (tgt := 32) C 0 dX8_law_1 h1 (by decide) rfl (by decide) ?_
    refine zs_aload_n (pc := 32) C dX8_law_32 rfl ?_
    refine zs_getd (r := 903) (pc := 33) C dX8_law_33 w_X8_25 f_9_3 (by decide) rfl (fun v33 e33 t33 => ?_)
    refine zs_iload_n (pc := 36) C dX8_law_36 rfl ?_
    refine zs_iload_n (pc := 37) C dX8_law_37 rfl ?_
    refine zVip2 (pc := 38) C dX8_law_38 v_X8_136 (c_X5_hasBoth hX ) (by decide) (by decide) ⟨Nat.zero_le _, Nat.zero_le _⟩ (Nat.le_of_ble_eq_true rfl) (fun x38 l38 u38 hp38 => ?_)
    have hq38 := hp38
    refine zs_if_eq (tgt := 57) (pc := 41) C dX8_law_41 (by decide) (fun h41 => ?_) (fun h41 => ?_)
    · skip
      refine zs_ldc2 (n := -9223372036854775808) (pc := 57) C dX8_law_57 q_X8_152 (by decide) (by decide) ?_
      exact zs_lret (pc := 60) C hr hlk dX8_law_60 ⟨by repeat (first | exact zsn_rf | assumption | refine zsn_C (by decide) ?_ | refine zsn_I (by decide) ?_ | refine zsn_J ?_ | refine zsn_P ?_ | refine zsn_m (by assumption) (by decide) ?_ | refine zsn_c (by assumption) (by decide) ?_), trivial⟩
    · skip
      refine zs_aload_n (pc := 44) C dX8_law_44 rfl ?_
      refine zs_getf (pc := 45) C dX8_law_45 w_X8_34 f_9_4 (by decide) ?_
      refine zs_iload_n (pc := 48) C dX8_law_48 rfl ?_
      refine zs_iload_n (pc := 49) C dX8_law_49 rfl ?_
      refine zs_iload_n (pc := 50) C dX8_law_50 rfl ?_
      refine zVj3 (pc := 51) C dX8_law_51 v_X8_148 (c_X7_valueOf hX (by omega) (by omega)) (by decide) (by decide) ⟨Nat.zero_le _, Nat.zero_le _⟩ (Nat.le_of_ble_eq_true rfl) (fun x51 G51 l51 u51 hp51 => ?_)
      obtain ⟨hz51, hq51⟩ := hp51
      refine zs_goto (tgt := 60) (pc := 54) C dX8_law_54 (by decide) ?_
      exact zs_lret (pc := 60) C hr hlk dX8_law_60 ⟨by repeat (first | exact zsn_rf | assumption | refine zsn_C (by decide) ?_ | refine zsn_I (by decide) ?_ | refine zsn_J ?_ | refine zsn_P ?_ | refine zsn_m (by assumption) (by decide) ?_ | refine zsn_c (by assumption) (by decide) ?_), trivial⟩
  · skip
    refine zs_tabIn (pc := 1) (tgt := 32) C 1 dX8_law_1 h1 (by decide) rfl (by decide) ?_
    refine zs_aload_n (pc := 32) C dX8_law_32 rfl ?_
    refine zs_getd (r := 903) (pc := 33) C dX8_law_33 w_X8_25 f_9_3 (by decide) rfl (fun v33 e33 t33 => ?_)
    refine zs_iload_n (pc := 36) C dX8_law_36 rfl ?_
    refine zs_iload_n (pc := 37) C dX8_law_37 rfl ?_
    refine zVip2 (pc := 38) C dX8_law_38 v_X8_136 (c_X5_hasBoth hX ) (by decide) (by decide) ⟨Nat.zero_le _, Nat.zero_le _⟩ (Nat.le_of_ble_eq_true rfl) (fun x38 l38 u38 hp38 => ?_)
    have hq38 := hp38
    refine zs_if_eq (tgt := 57) (pc := 41) C dX8_law_41 (by decide) (fun h41 => ?_) (fun h41 => ?_)
    · skip
      refine zs_ldc2 (n := -9223372036854775808) (pc := 57) C dX8_law_57 q_X8_152 (by decide) (by decide) ?_
      exact zs_lret (pc := 60) C hr hlk dX8_law_60 ⟨by repeat (first | exact zsn_rf | assumption | refine zsn_C (by decide) ?_ | refine zsn_I (by decide) ?_ | refine zsn_J ?_ | refine zsn_P ?_ | refine zsn_m (by assumption) (by decide) ?_ | refine zsn_c (by assumption) (by decide) ?_), trivial⟩
    · skip
      refine zs_aload_n (pc := 44) C dX8_law_44 rfl ?_
      refine zs_getf (pc := 45) C dX8_law_45 w_X8_34 f_9_4 (by decide) ?_
      refine zs_iload_n (pc := 48) C dX8_law_48 rfl ?_
      refine zs_iload_n (pc := 49) C dX8_law_49 rfl ?_
      refine zs_iload_n (pc := 50) C dX8_law_50 rfl ?_
      refine zVj3 (pc := 51) C dX8_law_51 v_X8_148 (c_X7_valueOf hX (by omega) (by omega)) (by decide) (by decide) ⟨Nat.zero_le _, Nat.zero_le _⟩ (Nat.le_of_ble_eq_true rfl) (fun x51 G51 l51 u51 hp51 => ?_)
      obtain ⟨hz51, hq51⟩ := hp51
      refine zs_goto (tgt := 60) (pc := 54) C dX8_law_54 (by decide) ?_
      exact zs_lret (pc := 60) C hr hlk dX8_law_60 ⟨by repeat (first | exact zsn_rf | assumption | refine zsn_C (by decide) ?_ | refine zsn_I (by decide) ?_ | refine zsn_J ?_ | refine zsn_P ?_ | refine zsn_m (by assumption) (by decide) ?_ | refine zsn_c (by assumption) (by decide) ?_), trivial⟩
  · skip
    refine zs_tabIn (pc := 1) (tgt := 61) C 2 dX8_law_1 h1 (by decide) rfl (by decide) ?_
    refine zs_aload_n (pc := 61) C dX8_law_61 rfl ?_
    refine zs_getd (r := 903) (pc := 62) C dX8_law_62 w_X8_25 f_9_3 (by decide) rfl (fun v62 e62 t62 => ?_)
    refine zs_iload_n (pc := 65) C dX8_law_65 rfl ?_
    refine zs_iload_n (pc := 66) C dX8_law_66 rfl ?_
    refine zVip2 (pc := 67) C dX8_law_67 v_X8_136 (c_X5_hasBoth hX ) (by decide) (by decide) ⟨Nat.zero_le _, Nat.zero_le _⟩ (Nat.le_of_ble_eq_true rfl) (fun x67 l67 u67 hp67 => ?_)
    have hq67 := hp67
    refine zs_if_eq (tgt := 98) (pc := 70) C dX8_law_70 (by decide) (fun h70 => ?_) (fun h70 => ?_)
    · skip
      refine zs_ldc2 (n := -9223372036854775808) (pc := 98) C dX8_law_98 q_X8_152 (by decide) (by decide) ?_
      exact zs_lret (pc := 101) C hr hlk dX8_law_101 ⟨by repeat (first | exact zsn_rf | assumption | refine zsn_C (by decide) ?_ | refine zsn_I (by decide) ?_ | refine zsn_J ?_ | refine zsn_P ?_ | refine zsn_m (by assumption) (by decide) ?_ | refine zsn_c (by assumption) (by decide) ?_), trivial⟩
    · skip
      refine zs_aload_n (pc := 73) C dX8_law_73 rfl ?_
      refine zs_getf (pc := 74) C dX8_law_74 w_X8_34 f_9_4 (by decide) ?_
      refine zs_iload_n (pc := 77) C dX8_law_77 rfl ?_
      refine zs_iload_n (pc := 78) C dX8_law_78 rfl ?_
      refine zVip2 (pc := 79) C dX8_law_79 v_X8_142 (c_X7_leftOf hX (by omega) (by omega)) (by decide) (by decide) ⟨Nat.zero_le _, Nat.zero_le _⟩ (Nat.le_of_ble_eq_true rfl) (fun x79 l79 u79 hp79 => ?_)
      have hq79 := hp79
      refine zs_if_le (tgt := 98) (pc := 82) C dX8_law_82 (by decide) (fun h82 => ?_) (fun h82 => ?_)
      · skip
        refine zs_ldc2 (n := -9223372036854775808) (pc := 98) C dX8_law_98 q_X8_152 (by decide) (by decide) ?_
        exact zs_lret (pc := 101) C hr hlk dX8_law_101 ⟨by repeat (first | exact zsn_rf | assumption | refine zsn_C (by decide) ?_ | refine zsn_I (by decide) ?_ | refine zsn_J ?_ | refine zsn_P ?_ | refine zsn_m (by assumption) (by decide) ?_ | refine zsn_c (by assumption) (by decide) ?_), trivial⟩
      · skip
        refine zs_aload_n (pc := 85) C dX8_law_85 rfl ?_
        refine zs_getf (pc := 86) C dX8_law_86 w_X8_34 f_9_4 (by decide) ?_
        refine zs_iload_n (pc := 89) C dX8_law_89 rfl ?_
        refine zs_iload_n (pc := 90) C dX8_law_90 rfl ?_
        refine zs_iload_n (pc := 91) C dX8_law_91 rfl ?_
        refine zVj3 (pc := 92) C dX8_law_92 v_X8_148 (c_X7_valueOf hX (by omega) (by omega)) (by decide) (by decide) ⟨Nat.zero_le _, Nat.zero_le _⟩ (Nat.le_of_ble_eq_true rfl) (fun x92 G92 l92 u92 hp92 => ?_)
        obtain ⟨hz92, hq92⟩ := hp92
        refine zs_goto (tgt := 101) (pc := 95) C dX8_law_95 (by decide) ?_
        exact zs_lret (pc := 101) C hr hlk dX8_law_101 ⟨by repeat (first | exact zsn_rf | assumption | refine zsn_C (by decide) ?_ | refine zsn_I (by decide) ?_ | refine zsn_J ?_ | refine zsn_P ?_ | refine zsn_m (by assumption) (by decide) ?_ | refine zsn_c (by assumption) (by decide) ?_), trivial⟩
  · skip
    refine zs_tabIn (pc := 1) (tgt := 102) C 3 dX8_law_1 h1 (by decide) rfl (by decide) ?_
    refine zs_aload_n (pc := 102) C dX8_law_102 rfl ?_
    refine zs_getd (r := 903) (pc := 103) C dX8_law_103 w_X8_25 f_9_3 (by decide) rfl (fun v103 e103 t103 => ?_)
    refine zs_iconst (pc := 106) C dX8_law_106 (by decide) ?_
    refine zs_iload_n (pc := 107) C dX8_law_107 rfl ?_
    refine zVip2 (pc := 108) C dX8_law_108 v_X8_104 (c_X5_has hX (by omega)) (by decide) (by decide) ⟨Nat.zero_le _, Nat.zero_le _⟩ (Nat.le_of_ble_eq_true rfl) (fun x108 l108 u108 hp108 => ?_)
    have hq108 := hp108
    refine zs_if_eq (tgt := 143) (pc := 111) C dX8_law_111 (by decide) (fun h111 => ?_) (fun h111 => ?_)
    · skip
      refine zs_ldc2 (n := -9223372036854775808) (pc := 143) C dX8_law_143 q_X8_152 (by decide) (by decide) ?_
      exact zs_lret (pc := 146) C hr hlk dX8_law_146 ⟨by repeat (first | exact zsn_rf | assumption | refine zsn_C (by decide) ?_ | refine zsn_I (by decide) ?_ | refine zsn_J ?_ | refine zsn_P ?_ | refine zsn_m (by assumption) (by decide) ?_ | refine zsn_c (by assumption) (by decide) ?_), trivial⟩
    · skip
      refine zs_aload_n (pc := 114) C dX8_law_114 rfl ?_
      refine zs_getd (r := 903) (pc := 115) C dX8_law_115 w_X8_25 f_9_3 (by decide) rfl (fun v115 e115 t115 => ?_)
      refine zs_iconst (pc := 118) C dX8_law_118 (by decide) ?_
      refine zs_iload_n (pc := 119) C dX8_law_119 rfl ?_
      refine zVip2 (pc := 120) C dX8_law_120 v_X8_104 (c_X5_has hX (by omega)) (by decide) (by decide) ⟨Nat.zero_le _, Nat.zero_le _⟩ (Nat.le_of_ble_eq_true rfl) (fun x120 l120 u120 hp120 => ?_)
      have hq120 := hp120
      refine zs_if_eq (tgt := 143) (pc := 123) C dX8_law_123 (by decide) (fun h123 => ?_) (fun h123 => ?_)
      · skip
        refine zs_ldc2 (n := -9223372036854775808) (pc := 143) C dX8_law_143 q_X8_152 (by decide) (by decide) ?_
        exact zs_lret (pc := 146) C hr hlk dX8_law_146 ⟨by repeat (first | exact zsn_rf | assumption | refine zsn_C (by decide) ?_ | refine zsn_I (by decide) ?_ | refine zsn_J ?_ | refine zsn_P ?_ | refine zsn_m (by assumption) (by decide) ?_ | refine zsn_c (by assumption) (by decide) ?_), trivial⟩
      · skip
        refine zs_iload_n (pc := 126) C dX8_law_126 rfl ?_
        refine zs_iload_n (pc := 127) C dX8_law_127 rfl ?_
        refine zs_icmp_ge (tgt := 143) (pc := 128) C dX8_law_128 (by decide) (fun h128 => ?_) (fun h128 => ?_)
        · skip
          refine zs_ldc2 (n := -9223372036854775808) (pc := 143) C dX8_law_143 q_X8_152 (by decide) (by decide) ?_
          exact zs_lret (pc := 146) C hr hlk dX8_law_146 ⟨by repeat (first | exact zsn_rf | assumption | refine zsn_C (by decide) ?_ | refine zsn_I (by decide) ?_ | refine zsn_J ?_ | refine zsn_P ?_ | refine zsn_m (by assumption) (by decide) ?_ | refine zsn_c (by assumption) (by decide) ?_), trivial⟩
        · skip
          refine zs_aload_n (pc := 131) C dX8_law_131 rfl ?_
          refine zs_getf (pc := 132) C dX8_law_132 w_X8_34 f_9_4 (by decide) ?_
          refine zs_iload_n (pc := 135) C dX8_law_135 rfl ?_
          refine zs_iload_n (pc := 136) C dX8_law_136 rfl ?_
          refine zVj2 (pc := 137) C dX8_law_137 v_X8_154 (c_X7_pairValue hX (by omega) (by omega)) (by decide) (by decide) ⟨Nat.zero_le _, Nat.zero_le _⟩ (Nat.le_of_ble_eq_true rfl) (fun x137 G137 l137 u137 hp137 => ?_)
          obtain ⟨hz137, hq137⟩ := hp137
          refine zs_goto (tgt := 146) (pc := 140) C dX8_law_140 (by decide) ?_
          exact zs_lret (pc := 146) C hr hlk dX8_law_146 ⟨by repeat (first | exact zsn_rf | assumption | refine zsn_C (by decide) ?_ | refine zsn_I (by decide) ?_ | refine zsn_J ?_ | refine zsn_P ?_ | refine zsn_m (by assumption) (by decide) ?_ | refine zsn_c (by assumption) (by decide) ?_), trivial⟩
  · skip
    refine zs_tabOut (tgt := 147) (pc := 1) C dX8_law_1 h1 (by decide) ?_
    refine zs_ldc2 (n := -9223372036854775808) (pc := 147) C dX8_law_147 q_X8_152 (by decide) (by decide) ?_
    exact zs_lret (pc := 150) C hr hlk dX8_law_150 ⟨by repeat (first | exact zsn_rf | assumption | refine zsn_C (by decide) ?_ | refine zsn_I (by decide) ?_ | refine zsn_J ?_ | refine zsn_P ?_ | refine zsn_m (by assumption) (by decide) ?_ | refine zsn_c (by assumption) (by decide) ?_), trivial⟩

set_option maxHeartbeats 4000000 in
set_option maxRecDepth 100000 in
theorem c_X8_remember {l : Launch} {Γ : zΓ} {G : zH} {w : Nat} {k : Int} (hX : zXs Γ) (hk : 0 ≤ k ∧ k ≤ 25) : zMet l Γ yX8_remember cX8_remember 2 none 2 [zr 9 w, zi k] G (zpv (fun G' => zsn [2020, 2056, 910] G G' ∧ True)) := by
  refine zMet_of RX8 hX (by decide) rfl (Nat.le_of_ble_eq_true rfl) ?_
  intro p e s m args below meth c C hr hlk
  show Z p l e (zrm 2) s m args below meth c Γ 2 0 0 (MQ below (zQc Γ (zpv (fun G' => zsn [2020, 2056, 910] G G' ∧ True))) args s 0 0 (zA Γ)) 0 [some (zr 9 w), some (zi k)] [] G
  refine zs_loc 1 rfl (fun ha1 hb1 => ?_)
  refine zs_aload_n (pc := 0) C dX8_remember_0 rfl ?_
  refine zs_getf (pc := 1) C dX8_remember_1 w_X8_49 f_9_7 (by decide) ?_
  refine zVv0 (pc := 4) C dX8_remember_4 v_X8_97 (c_X2_forget hX ) (by decide) (by decide) ⟨Nat.zero_le _, Nat.zero_le _⟩ (Nat.le_of_ble_eq_true rfl) (fun G4 hp4 => ?_)
  obtain ⟨hz4, hq4⟩ := hp4
  refine zs_aload_n (pc := 7) C dX8_remember_7 rfl ?_
  refine zs_geti (r := 910) (pc := 8) C dX8_remember_8 w_X8_94 f_9_10 rfl (r_910 0) (fun v8 e8 l8 u8 => ?_)
  refine zs_bipush (pc := 11) C dX8_remember_11 (by decide) (by decide) ?_
  refine zs_icmp_lt (tgt := 37) (pc := 13) C dX8_remember_13 (by decide) (fun h13 => ?_) (fun h13 => ?_)
  · skip
    refine zs_aload_n (pc := 37) C dX8_remember_37 rfl ?_
    refine zs_getf (pc := 38) C dX8_remember_38 w_X8_60 f_9_9 (by decide) ?_
    refine zs_aload_n (pc := 41) C dX8_remember_41 rfl ?_
    refine zs_geti (r := 910) (pc := 42) C dX8_remember_42 w_X8_94 f_9_10 rfl (r_910 0) (fun v42 e42 l42 u42 => ?_)
    refine zs_iload_n (pc := 45) C dX8_remember_45 rfl ?_
    refine zs_iast (r := 2056) (pc := 46) C dX8_remember_46 a_56 (by decide) (by omega) rfl (r_2056 _) (by omega) ?_
    refine zs_aload_n (pc := 47) C dX8_remember_47 rfl ?_
    refine zs_dupa (pc := 48) C dX8_remember_48 ?_
    refine zs_geti (r := 910) (pc := 49) C dX8_remember_49 w_X8_94 f_9_10 rfl (r_910 0) (fun v49 e49 l49 u49 => ?_)
    try simp only [zuI_1, zuI_2, zuJ_1, zuJ_2, zuJ_3, zuP_1, zuP_2, zuP_3, zuC_1, zuC_2, reduceIte, Nat.reduceEqDiff, false_and, and_false, true_and, and_true, and_self, or_true, true_or, or_false, false_or] at e49
    refine zs_iconst (pc := 52) C dX8_remember_52 (by decide) ?_
    first | refine zs_iadd (pc := 53) C dX8_remember_53 (by omega) ?_ | refine zs_iaddF (pc := 53) C dX8_remember_53 (fun z53 hz531 hz532 => ?_)
    refine zs_puti (r := 910) (pc := 54) C dX8_remember_54 w_X8_94 f_9_10 rfl (r_910 0) (by omega) ?_
    exact zs_vret (pc := 57) C hr hlk dX8_remember_57 ⟨by repeat (first | exact zsn_rf | assumption | refine zsn_C (by decide) ?_ | refine zsn_I (by decide) ?_ | refine zsn_J ?_ | refine zsn_P ?_ | refine zsn_m (by assumption) (by decide) ?_ | refine zsn_c (by assumption) (by decide) ?_), trivial⟩
  · skip
    refine zs_aload_n (pc := 16) C dX8_remember_16 rfl ?_
    refine zs_getf (pc := 17) C dX8_remember_17 w_X8_60 f_9_9 (by decide) ?_
    refine zs_iconst (pc := 20) C dX8_remember_20 (by decide) ?_
    refine zs_aload_n (pc := 21) C dX8_remember_21 rfl ?_
    refine zs_getf (pc := 22) C dX8_remember_22 w_X8_60 f_9_9 (by decide) ?_
    refine zs_iconst (pc := 25) C dX8_remember_25 (by decide) ?_
    refine zs_bipush (pc := 26) C dX8_remember_26 (by decide) (by decide) ?_
    refine zs_acopy (r0 := 2056) (r1 := 2056) (pc := 28) C dX8_remember_28 ac_X8_191 a_56 a_56 (by decide) (by decide) (by omega) (by omega) (by omega) (by omega) (by omega) rfl rfl (fun i j => Or.inl (by rw [r_2056, r_2056]; decide)) (by decide) (Nat.le_of_ble_eq_true rfl) ?_
    refine zs_aload_n (pc := 31) C dX8_remember_31 rfl ?_
    refine zs_bipush (pc := 32) C dX8_remember_32 (by decide) (by decide) ?_
    refine zs_puti (r := 910) (pc := 34) C dX8_remember_34 w_X8_94 f_9_10 rfl (r_910 0) (by omega) ?_
    refine zs_aload_n (pc := 37) C dX8_remember_37 rfl ?_
    refine zs_getf (pc := 38) C dX8_remember_38 w_X8_60 f_9_9 (by decide) ?_
    refine zs_aload_n (pc := 41) C dX8_remember_41 rfl ?_
    refine zs_geti (r := 910) (pc := 42) C dX8_remember_42 w_X8_94 f_9_10 rfl (r_910 0) (fun v42 e42 l42 u42 => ?_)
    try simp only [zuI_1, zuI_2, zuJ_1, zuJ_2, zuJ_3, zuP_1, zuP_2, zuP_3, zuC_1, zuC_2, reduceIte, Nat.reduceEqDiff, false_and, and_false, true_and, and_true, and_self, or_true, true_or, or_false, false_or] at e42
    refine zs_iload_n (pc := 45) C dX8_remember_45 rfl ?_
    refine zs_iast (r := 2056) (pc := 46) C dX8_remember_46 a_56 (by decide) (by omega) rfl (r_2056 _) (by omega) ?_
    refine zs_aload_n (pc := 47) C dX8_remember_47 rfl ?_
    refine zs_dupa (pc := 48) C dX8_remember_48 ?_
    refine zs_geti (r := 910) (pc := 49) C dX8_remember_49 w_X8_94 f_9_10 rfl (r_910 0) (fun v49 e49 l49 u49 => ?_)
    try simp only [zuI_1, zuI_2, zuJ_1, zuJ_2, zuJ_3, zuP_1, zuP_2, zuP_3, zuC_1, zuC_2, reduceIte, Nat.reduceEqDiff, false_and, and_false, true_and, and_true, and_self, or_true, true_or, or_false, false_or] at e49
    refine zs_iconst (pc := 52) C dX8_remember_52 (by decide) ?_
    first | refine zs_iadd (pc := 53) C dX8_remember_53 (by omega) ?_ | refine zs_iaddF (pc := 53) C dX8_remember_53 (fun z53 hz531 hz532 => ?_)
    refine zs_puti (r := 910) (pc := 54) C dX8_remember_54 w_X8_94 f_9_10 rfl (r_910 0) (by omega) ?_
    exact zs_vret (pc := 57) C hr hlk dX8_remember_57 ⟨by repeat (first | exact zsn_rf | assumption | refine zsn_C (by decide) ?_ | refine zsn_I (by decide) ?_ | refine zsn_J ?_ | refine zsn_P ?_ | refine zsn_m (by assumption) (by decide) ?_ | refine zsn_c (by assumption) (by decide) ?_), trivial⟩

set_option maxHeartbeats 4000000 in
set_option maxRecDepth 100000 in
theorem c_X8_confessByCall {l : Launch} {Γ : zΓ} {G : zH} {w : Nat} {p0 s0 : Int} (hX : zXs Γ) (hp : 0 ≤ p0 ∧ p0 ≤ 4)(hs : 0 ≤ s0 ∧ s0 ≤ 3) : zMet l Γ yX8_confessByCall cX8_confessByCall 3 (some .int) 4 [zr 9 w, zi p0, zi s0] G (zpi (fun x G' => zsn [510, 2026, 2027, 2028, 2029, 2030, 2031, 2032, 2033, 2034, 2035, 810, 811, 2049, 2050, 2051, 2020, 2056, 910] G G' ∧ True)) := by
  refine zMet_of RX8 hX (by decide) rfl (Nat.le_of_ble_eq_true rfl) ?_
  intro p e s m args below meth c C hr hlk
  show Z p l e (zrm 4) s m args below meth c Γ 3 0 0 (MQ below (zQc Γ (zpi (fun x G' => zsn [510, 2026, 2027, 2028, 2029, 2030, 2031, 2032, 2033, 2034, 2035, 810, 811, 2049, 2050, 2051, 2020, 2056, 910] G G' ∧ True))) args s 0 0 (zA Γ)) 0 [some (zr 9 w), some (zi p0), some (zi s0)] [] G
  refine zs_loc 1 rfl (fun ha1 hb1 => ?_)
  refine zs_loc 2 rfl (fun ha2 hb2 => ?_)
  refine zs_aload_n (pc := 0) C dX8_confessByCall_0 rfl ?_
  refine zs_getf (pc := 1) C dX8_confessByCall_1 w_X8_34 f_9_4 (by decide) ?_
  refine zs_iload_n (pc := 4) C dX8_confessByCall_4 rfl ?_
  refine zs_iload_n (pc := 5) C dX8_confessByCall_5 rfl ?_
  refine zs_iconst (pc := 6) C dX8_confessByCall_6 (by decide) ?_
  refine zVv3 (pc := 7) C dX8_confessByCall_7 v_X8_165 (c_X7_grindOne hX (by omega) (by omega)) (by decide) (by decide) ⟨Nat.zero_le _, Nat.zero_le _⟩ (Nat.le_of_ble_eq_true rfl) (fun G7 hp7 => ?_)
  obtain ⟨hz7, hq7⟩ := hp7
  refine zs_aload_n (pc := 10) C dX8_confessByCall_10 rfl ?_
  refine zs_iconst (pc := 11) C dX8_confessByCall_11 (by decide) ?_
  refine zVv1 (pc := 12) C dX8_confessByCall_12 v_X8_169 (c_X8_remember hX (by omega)) (by decide) (by decide) ⟨Nat.zero_le _, Nat.zero_le _⟩ (Nat.le_of_ble_eq_true rfl) (fun G12 hp12 => ?_)
  obtain ⟨hz12, hq12⟩ := hp12
  refine zs_aload_n (pc := 15) C dX8_confessByCall_15 rfl ?_
  refine zs_getf (pc := 16) C dX8_confessByCall_16 w_X8_34 f_9_4 (by decide) ?_
  refine zs_getf (pc := 19) C dX8_confessByCall_19 w_X8_172 f_8_1 (by decide) ?_
  refine zs_geti (r := 510) (pc := 22) C dX8_confessByCall_22 w_X8_176 f_5_10 rfl (r_510 0) (fun v22 e22 l22 u22 => ?_)
  refine zs_iconst (pc := 25) C dX8_confessByCall_25 (by decide) ?_
  first | refine zs_isub (pc := 26) C dX8_confessByCall_26 (by omega) ?_ | refine zs_isubF (pc := 26) C dX8_confessByCall_26 (fun z26 hz261 hz262 => ?_)
  exact zs_iret (pc := 27) C hr hlk dX8_confessByCall_27 ⟨by repeat (first | exact zsn_rf | assumption | refine zsn_C (by decide) ?_ | refine zsn_I (by decide) ?_ | refine zsn_J ?_ | refine zsn_P ?_ | refine zsn_m (by assumption) (by decide) ?_ | refine zsn_c (by assumption) (by decide) ?_), trivial⟩

set_option maxHeartbeats 4000000 in
set_option maxRecDepth 100000 in
theorem c_X8_confess {l : Launch} {Γ : zΓ} {G : zH} {w : Nat} {p0 s0 : Int} (hX : zXs Γ)  : zMet l Γ yX8_confess cX8_confess 3 (some .int) 5 [zr 9 w, zi p0, zi s0] G (zpi (fun x G' => zsn [510, 2026, 2027, 2028, 2029, 2030, 2031, 2032, 2033, 2034, 2035, 810, 811, 2049, 2050, 2051, 2020, 2056, 910] G G' ∧ True)) := by
  refine zMet_of RX8 hX (by decide) rfl (Nat.le_of_ble_eq_true rfl) ?_
  intro p e s m args below meth c C hr hlk
  show Z p l e (zrm 5) s m args below meth c Γ 3 0 0 (MQ below (zQc Γ (zpi (fun x G' => zsn [510, 2026, 2027, 2028, 2029, 2030, 2031, 2032, 2033, 2034, 2035, 810, 811, 2049, 2050, 2051, 2020, 2056, 910] G G' ∧ True))) args s 0 0 (zA Γ)) 0 [some (zr 9 w), some (zi p0), some (zi s0)] [] G
  refine zs_loc 1 rfl (fun ha1 hb1 => ?_)
  refine zs_loc 2 rfl (fun ha2 hb2 => ?_)
  refine zs_aload_n (pc := 0) C dX8_confess_0 rfl ?_
  refine zs_getd (r := 903) (pc := 1) C dX8_confess_1 w_X8_25 f_9_3 (by decide) rfl (fun v1 e1 t1 => ?_)
  refine zs_iload_n (pc := 4) C dX8_confess_4 rfl ?_
  refine zs_iload_n (pc := 5) C dX8_confess_5 rfl ?_
  refine zVip2 (pc := 6) C dX8_confess_6 v_X8_136 (c_X5_hasBoth hX ) (by decide) (by decide) ⟨Nat.zero_le _, Nat.zero_le _⟩ (Nat.le_of_ble_eq_true rfl) (fun x6 l6 u6 hp6 => ?_)
  have hq6 := hp6
  refine zs_if_ne (tgt := 14) (pc := 9) C dX8_confess_9 (by decide) (fun h9 => ?_) (fun h9 => ?_)
  · skip
    refine zs_aload_n (pc := 14) C dX8_confess_14 rfl ?_
    refine zs_getf (pc := 15) C dX8_confess_15 w_X8_34 f_9_4 (by decide) ?_
    refine zVip0 (pc := 18) C dX8_confess_18 v_X8_158 (c_X7_canGrind hX ) (by decide) (by decide) ⟨Nat.zero_le _, Nat.zero_le _⟩ (Nat.le_of_ble_eq_true rfl) (fun x18 l18 u18 hp18 => ?_)
    have hq18 := hp18
    refine zs_if_eq (tgt := 33) (pc := 21) C dX8_confess_21 (by decide) (fun h21 => ?_) (fun h21 => ?_)
    · skip
      refine zs_bipush (pc := 33) C dX8_confess_33 (by decide) (by decide) ?_
      exact zs_iret (pc := 35) C hr hlk dX8_confess_35 ⟨by repeat (first | exact zsn_rf | assumption | refine zsn_C (by decide) ?_ | refine zsn_I (by decide) ?_ | refine zsn_J ?_ | refine zsn_P ?_ | refine zsn_m (by assumption) (by decide) ?_ | refine zsn_c (by assumption) (by decide) ?_), trivial⟩
    · skip
      refine zs_aload_n (pc := 24) C dX8_confess_24 rfl ?_
      refine zs_iload_n (pc := 25) C dX8_confess_25 rfl ?_
      refine zs_iload_n (pc := 26) C dX8_confess_26 rfl ?_
      refine zVi2 (pc := 27) C dX8_confess_27 v_X8_162 (c_X8_confessByCall hX (by omega) (by omega)) (by decide) (by decide) ⟨Nat.zero_le _, Nat.zero_le _⟩ (Nat.le_of_ble_eq_true rfl) (fun x27 G27 l27 u27 hp27 => ?_)
      obtain ⟨hz27, hq27⟩ := hp27
      refine zs_goto (tgt := 35) (pc := 30) C dX8_confess_30 (by decide) ?_
      exact zs_iret (pc := 35) C hr hlk dX8_confess_35 ⟨by repeat (first | exact zsn_rf | assumption | refine zsn_C (by decide) ?_ | refine zsn_I (by decide) ?_ | refine zsn_J ?_ | refine zsn_P ?_ | refine zsn_m (by assumption) (by decide) ?_ | refine zsn_c (by assumption) (by decide) ?_), trivial⟩
  · skip
    refine zs_iconst (pc := 12) C dX8_confess_12 (by decide) ?_
    exact zs_iret (pc := 13) C hr hlk dX8_confess_13 ⟨by repeat (first | exact zsn_rf | assumption | refine zsn_C (by decide) ?_ | refine zsn_I (by decide) ?_ | refine zsn_J ?_ | refine zsn_P ?_ | refine zsn_m (by assumption) (by decide) ?_ | refine zsn_c (by assumption) (by decide) ?_), trivial⟩

set_option maxHeartbeats 4000000 in
set_option maxRecDepth 100000 in
theorem c_X8_ask {l : Launch} {Γ : zΓ} {G : zH} {w : Nat} {p0 : Int} (hX : zXs Γ)  : zMet l Γ yX8_ask cX8_ask 3 (some .int) 5 [zr 9 w, zi p0] G (zpi (fun x G' => zsn [510, 2026, 2027, 2028, 2029, 2030, 2031, 2032, 2033, 2034, 2035, 810, 811, 2049, 2050, 2051, 2020, 2056, 910, 812] G G' ∧ True)) := by
  refine zMet_of RX8 hX (by decide) rfl (Nat.le_of_ble_eq_true rfl) ?_
  intro p e s m args below meth c C hr hlk
  show Z p l e (zrm 5) s m args below meth c Γ 3 0 0 (MQ below (zQc Γ (zpi (fun x G' => zsn [510, 2026, 2027, 2028, 2029, 2030, 2031, 2032, 2033, 2034, 2035, 810, 811, 2049, 2050, 2051, 2020, 2056, 910, 812] G G' ∧ True))) args s 0 0 (zA Γ)) 0 [some (zr 9 w), some (zi p0), none] [] G
  refine zs_loc 1 rfl (fun ha1 hb1 => ?_)
  refine zs_aload_n (pc := 0) C dX8_ask_0 rfl ?_
  refine zs_getd (r := 903) (pc := 1) C dX8_ask_1 w_X8_25 f_9_3 (by decide) rfl (fun v1 e1 t1 => ?_)
  refine zs_iconst (pc := 4) C dX8_ask_4 (by decide) ?_
  refine zs_iload_n (pc := 5) C dX8_ask_5 rfl ?_
  refine zVip2 (pc := 6) C dX8_ask_6 v_X8_104 (c_X5_has hX (by omega)) (by decide) (by decide) ⟨Nat.zero_le _, Nat.zero_le _⟩ (Nat.le_of_ble_eq_true rfl) (fun x6 l6 u6 hp6 => ?_)
  have hq6 := hp6
  refine zs_if_ne (tgt := 14) (pc := 9) C dX8_ask_9 (by decide) (fun h9 => ?_) (fun h9 => ?_)
  · skip
    refine zs_aload_n (pc := 14) C dX8_ask_14 rfl ?_
    refine zs_getf (pc := 15) C dX8_ask_15 w_X8_34 f_9_4 (by decide) ?_
    refine zVip0 (pc := 18) C dX8_ask_18 v_X8_158 (c_X7_canGrind hX ) (by decide) (by decide) ⟨Nat.zero_le _, Nat.zero_le _⟩ (Nat.le_of_ble_eq_true rfl) (fun x18 l18 u18 hp18 => ?_)
    have hq18 := hp18
    refine zs_if_ne (tgt := 27) (pc := 21) C dX8_ask_21 (by decide) (fun h21 => ?_) (fun h21 => ?_)
    · skip
      refine zs_aload_n (pc := 27) C dX8_ask_27 rfl ?_
      refine zs_getf (pc := 28) C dX8_ask_28 w_X8_34 f_9_4 (by decide) ?_
      refine zs_iload_n (pc := 31) C dX8_ask_31 rfl ?_
      refine zVi1 (pc := 32) C dX8_ask_32 v_X8_181 (c_X7_sinByChance hX (by omega)) (by decide) (by decide) ⟨Nat.zero_le _, Nat.zero_le _⟩ (Nat.le_of_ble_eq_true rfl) (fun x32 G32 l32 u32 hp32 => ?_)
      obtain ⟨hz32, hq32⟩ := hp32
      refine zs_istore_n (pc := 35) C dX8_ask_35 (by decide) ?_
      dsimp only [zset, zclr, znone]
      refine zs_aload_n (pc := 36) C dX8_ask_36 rfl ?_
      refine zs_getd (r := 903) (pc := 37) C dX8_ask_37 w_X8_25 f_9_3 (by decide) rfl (fun v37 e37 t37 => ?_)
      try simp only [hz32.2, zuI_1, zuI_2, zuJ_1, zuJ_2, zuJ_3, zuP_1, zuP_2, zuP_3, zuC_1, zuC_2, reduceIte, Nat.reduceEqDiff, false_and, and_false, true_and, and_true, and_self, or_true, true_or, or_false, false_or] at e37
      refine zs_iconst (pc := 40) C dX8_ask_40 (by decide) ?_
      refine zs_iload_n (pc := 41) C dX8_ask_41 rfl ?_
      refine zVip2 (pc := 42) C dX8_ask_42 v_X8_104 (c_X5_has hX (by omega)) (by decide) (by decide) ⟨Nat.zero_le _, Nat.zero_le _⟩ (Nat.le_of_ble_eq_true rfl) (fun x42 l42 u42 hp42 => ?_)
      have hq42 := hp42
      refine zs_if_eq (tgt := 57) (pc := 45) C dX8_ask_45 (by decide) (fun h45 => ?_) (fun h45 => ?_)
      · skip
        refine zs_bipush (pc := 57) C dX8_ask_57 (by decide) (by decide) ?_
        exact zs_iret (pc := 59) C hr hlk dX8_ask_59 ⟨by repeat (first | exact zsn_rf | assumption | refine zsn_C (by decide) ?_ | refine zsn_I (by decide) ?_ | refine zsn_J ?_ | refine zsn_P ?_ | refine zsn_m (by assumption) (by decide) ?_ | refine zsn_c (by assumption) (by decide) ?_), trivial⟩
      · skip
        refine zs_aload_n (pc := 48) C dX8_ask_48 rfl ?_
        refine zs_iload_n (pc := 49) C dX8_ask_49 rfl ?_
        refine zs_iload_n (pc := 50) C dX8_ask_50 rfl ?_
        refine zVi2 (pc := 51) C dX8_ask_51 v_X8_162 (c_X8_confessByCall hX (by omega) (by omega)) (by decide) (by decide) ⟨Nat.zero_le _, Nat.zero_le _⟩ (Nat.le_of_ble_eq_true rfl) (fun x51 G51 l51 u51 hp51 => ?_)
        obtain ⟨hz51, hq51⟩ := hp51
        refine zs_goto (tgt := 59) (pc := 54) C dX8_ask_54 (by decide) ?_
        exact zs_iret (pc := 59) C hr hlk dX8_ask_59 ⟨by repeat (first | exact zsn_rf | assumption | refine zsn_C (by decide) ?_ | refine zsn_I (by decide) ?_ | refine zsn_J ?_ | refine zsn_P ?_ | refine zsn_m (by assumption) (by decide) ?_ | refine zsn_c (by assumption) (by decide) ?_), trivial⟩
    · skip
      refine zs_bipush (pc := 24) C dX8_ask_24 (by decide) (by decide) ?_
      exact zs_iret (pc := 26) C hr hlk dX8_ask_26 ⟨by repeat (first | exact zsn_rf | assumption | refine zsn_C (by decide) ?_ | refine zsn_I (by decide) ?_ | refine zsn_J ?_ | refine zsn_P ?_ | refine zsn_m (by assumption) (by decide) ?_ | refine zsn_c (by assumption) (by decide) ?_), trivial⟩
  · skip
    refine zs_iconst (pc := 12) C dX8_ask_12 (by decide) ?_
    exact zs_iret (pc := 13) C hr hlk dX8_ask_13 ⟨by repeat (first | exact zsn_rf | assumption | refine zsn_C (by decide) ?_ | refine zsn_I (by decide) ?_ | refine zsn_J ?_ | refine zsn_P ?_ | refine zsn_m (by assumption) (by decide) ?_ | refine zsn_c (by assumption) (by decide) ?_), trivial⟩

set_option maxHeartbeats 4000000 in
set_option maxRecDepth 100000 in
theorem c_X8_fall {l : Launch} {Γ : zΓ} {G : zH} {w : Nat} {p0 s0 : Int} (hX : zXs Γ)  : zMet l Γ yX8_fall cX8_fall 3 (some .int) 3 [zr 9 w, zi p0, zi s0] G (zpi (fun x G' => zsn [2048, 2049, 2052, 2020, 2056, 910] G G' ∧ True)) := by
  refine zMet_of RX8 hX (by decide) rfl (Nat.le_of_ble_eq_true rfl) ?_
  intro p e s m args below meth c C hr hlk
  show Z p l e (zrm 3) s m args below meth c Γ 3 0 0 (MQ below (zQc Γ (zpi (fun x G' => zsn [2048, 2049, 2052, 2020, 2056, 910] G G' ∧ True))) args s 0 0 (zA Γ)) 0 [some (zr 9 w), some (zi p0), some (zi s0)] [] G
  refine zs_loc 1 rfl (fun ha1 hb1 => ?_)
  refine zs_loc 2 rfl (fun ha2 hb2 => ?_)
  refine zs_aload_n (pc := 0) C dX8_fall_0 rfl ?_
  refine zs_getd (r := 903) (pc := 1) C dX8_fall_1 w_X8_25 f_9_3 (by decide) rfl (fun v1 e1 t1 => ?_)
  refine zs_iload_n (pc := 4) C dX8_fall_4 rfl ?_
  refine zs_iload_n (pc := 5) C dX8_fall_5 rfl ?_
  refine zVip2 (pc := 6) C dX8_fall_6 v_X8_136 (c_X5_hasBoth hX ) (by decide) (by decide) ⟨Nat.zero_le _, Nat.zero_le _⟩ (Nat.le_of_ble_eq_true rfl) (fun x6 l6 u6 hp6 => ?_)
  have hq6 := hp6
  refine zs_if_ne (tgt := 14) (pc := 9) C dX8_fall_9 (by decide) (fun h9 => ?_) (fun h9 => ?_)
  · skip
    refine zs_aload_n (pc := 14) C dX8_fall_14 rfl ?_
    refine zs_getf (pc := 15) C dX8_fall_15 w_X8_34 f_9_4 (by decide) ?_
    refine zs_iload_n (pc := 18) C dX8_fall_18 rfl ?_
    refine zs_iload_n (pc := 19) C dX8_fall_19 rfl ?_
    refine zVip2 (pc := 20) C dX8_fall_20 v_X8_184 (c_X7_canFall hX (by omega) (by omega)) (by decide) (by decide) ⟨Nat.zero_le _, Nat.zero_le _⟩ (Nat.le_of_ble_eq_true rfl) (fun x20 l20 u20 hp20 => ?_)
    have hq20 := hp20
    refine zs_if_ne (tgt := 29) (pc := 23) C dX8_fall_23 (by decide) (fun h23 => ?_) (fun h23 => ?_)
    · skip
      refine zs_aload_n (pc := 29) C dX8_fall_29 rfl ?_
      refine zs_getf (pc := 30) C dX8_fall_30 w_X8_34 f_9_4 (by decide) ?_
      refine zs_iload_n (pc := 33) C dX8_fall_33 rfl ?_
      refine zs_iload_n (pc := 34) C dX8_fall_34 rfl ?_
      refine zVv2 (pc := 35) C dX8_fall_35 v_X8_187 (c_X7_fallOnce hX (by omega) (by omega)) (by decide) (by decide) ⟨Nat.zero_le _, Nat.zero_le _⟩ (Nat.le_of_ble_eq_true rfl) (fun G35 hp35 => ?_)
      obtain ⟨hz35, hq35⟩ := hp35
      refine zs_aload_n (pc := 38) C dX8_fall_38 rfl ?_
      refine zs_iconst (pc := 39) C dX8_fall_39 (by decide) ?_
      refine zs_iload_n (pc := 40) C dX8_fall_40 rfl ?_
      refine zs_iconst (pc := 41) C dX8_fall_41 (by decide) ?_
      first | refine zs_imul (pc := 42) C dX8_fall_42 (by omega) ?_ | refine zs_imulF (pc := 42) C dX8_fall_42 (fun z42 hz421 hz422 => ?_)
      first | refine zs_iadd (pc := 43) C dX8_fall_43 (by omega) ?_ | refine zs_iaddF (pc := 43) C dX8_fall_43 (fun z43 hz431 hz432 => ?_)
      refine zs_iload_n (pc := 44) C dX8_fall_44 rfl ?_
      first | refine zs_iadd (pc := 45) C dX8_fall_45 (by omega) ?_ | refine zs_iaddF (pc := 45) C dX8_fall_45 (fun z45 hz451 hz452 => ?_)
      refine zVv1 (pc := 46) C dX8_fall_46 v_X8_169 (c_X8_remember hX (by omega)) (by decide) (by decide) ⟨Nat.zero_le _, Nat.zero_le _⟩ (Nat.le_of_ble_eq_true rfl) (fun G46 hp46 => ?_)
      obtain ⟨hz46, hq46⟩ := hp46
      refine zs_aload_n (pc := 49) C dX8_fall_49 rfl ?_
      refine zs_getf (pc := 50) C dX8_fall_50 w_X8_34 f_9_4 (by decide) ?_
      refine zs_getf (pc := 53) C dX8_fall_53 w_X8_128 f_8_6 (by decide) ?_
      refine zs_iload_n (pc := 56) C dX8_fall_56 rfl ?_
      refine zs_iald (r := 2052) (pc := 57) C dX8_fall_57 a_52 (by decide) (by omega) rfl (r_2052 _) (fun v57 e57 l57 u57 => ?_)
      exact zs_iret (pc := 58) C hr hlk dX8_fall_58 ⟨by repeat (first | exact zsn_rf | assumption | refine zsn_C (by decide) ?_ | refine zsn_I (by decide) ?_ | refine zsn_J ?_ | refine zsn_P ?_ | refine zsn_m (by assumption) (by decide) ?_ | refine zsn_c (by assumption) (by decide) ?_), trivial⟩
    · skip
      refine zs_bipush (pc := 26) C dX8_fall_26 (by decide) (by decide) ?_
      exact zs_iret (pc := 28) C hr hlk dX8_fall_28 ⟨by repeat (first | exact zsn_rf | assumption | refine zsn_C (by decide) ?_ | refine zsn_I (by decide) ?_ | refine zsn_J ?_ | refine zsn_P ?_ | refine zsn_m (by assumption) (by decide) ?_ | refine zsn_c (by assumption) (by decide) ?_), trivial⟩
  · skip
    refine zs_iconst (pc := 12) C dX8_fall_12 (by decide) ?_
    exact zs_iret (pc := 13) C hr hlk dX8_fall_13 ⟨by repeat (first | exact zsn_rf | assumption | refine zsn_C (by decide) ?_ | refine zsn_I (by decide) ?_ | refine zsn_J ?_ | refine zsn_P ?_ | refine zsn_m (by assumption) (by decide) ?_ | refine zsn_c (by assumption) (by decide) ?_), trivial⟩

set_option maxHeartbeats 4000000 in
set_option maxRecDepth 100000 in
theorem c_X8_sack {l : Launch} {Γ : zΓ} {G : zH} {w : Nat} {a k : Int} (hX : zXs Γ)  : zMet l Γ yX8_sack cX8_sack 3 (some .int) 1 [zr 9 w, zi a, zi k] G (zpi (fun x G' => G' = G ∧ True)) := by
  refine zMet_of RX8 hX (by decide) rfl (Nat.le_of_ble_eq_true rfl) ?_
  intro p e s m args below meth c C hr hlk
  show Z p l e (zrm 1) s m args below meth c Γ 3 0 0 (MQ below (zQc Γ (zpi (fun x G' => G' = G ∧ True))) args s 0 0 (zA Γ)) 0 [some (zr 9 w), some (zi a), some (zi k)] [] G
  refine zs_loc 1 rfl (fun ha1 hb1 => ?_)
  refine zs_loc 2 rfl (fun ha2 hb2 => ?_)
  refine zs_aload_n (pc := 0) C dX8_sack_0 rfl ?_
  refine zs_getf (pc := 1) C dX8_sack_1 w_X8_34 f_9_4 (by decide) ?_
  refine zs_getf (pc := 4) C dX8_sack_4 w_X8_172 f_8_1 (by decide) ?_
  refine zs_iload_n (pc := 7) C dX8_sack_7 rfl ?_
  refine zVip1 (pc := 8) C dX8_sack_8 v_X8_197 (c_X4_has hX ) (by decide) (by decide) ⟨Nat.zero_le _, Nat.zero_le _⟩ (Nat.le_of_ble_eq_true rfl) (fun x8 l8 u8 hp8 => ?_)
  have hq8 := hp8
  refine zs_if_ne (tgt := 16) (pc := 11) C dX8_sack_11 (by decide) (fun h11 => ?_) (fun h11 => ?_)
  · skip
    refine zs_iload_n (pc := 16) C dX8_sack_16 rfl ?_
    refine zs_name (fun y17 ey17 => ?_)
    rcases (show y17 = 0 ∨ y17 = 1 ∨ y17 = 2 ∨ y17 = 3 ∨ y17 = 4 ∨ (y17 < 0 ∨ 4 < y17) by omega) with h17 | h17 | h17 | h17 | h17 | h17
    · skip
      refine zs_tabIn (pc := 17) (tgt := 52) C 0 dX8_sack_17 h17 (by decide) rfl (by decide) ?_
      refine zs_aload_n (pc := 52) C dX8_sack_52 rfl ?_
      refine zs_getf (pc := 53) C dX8_sack_53 w_X8_34 f_9_4 (by decide) ?_
      refine zs_getf (pc := 56) C dX8_sack_56 w_X8_172 f_8_1 (by decide) ?_
      refine zs_getf (pc := 59) C dX8_sack_59 w_X8_200 f_5_0 (by decide) ?_
      refine zs_iload_n (pc := 62) C dX8_sack_62 rfl ?_
      refine zs_iald (r := 2026) (pc := 63) C dX8_sack_63 a_26 (by decide) (by omega) rfl (r_2026 _) (fun v63 e63 l63 u63 => ?_)
      exact zs_iret (pc := 64) C hr hlk dX8_sack_64 ⟨rfl, trivial⟩
    · skip
      refine zs_tabIn (pc := 17) (tgt := 65) C 1 dX8_sack_17 h17 (by decide) rfl (by decide) ?_
      refine zs_aload_n (pc := 65) C dX8_sack_65 rfl ?_
      refine zs_getf (pc := 66) C dX8_sack_66 w_X8_34 f_9_4 (by decide) ?_
      refine zs_getf (pc := 69) C dX8_sack_69 w_X8_172 f_8_1 (by decide) ?_
      refine zs_getf (pc := 72) C dX8_sack_72 w_X8_203 f_5_1 (by decide) ?_
      refine zs_iload_n (pc := 75) C dX8_sack_75 rfl ?_
      refine zs_iald (r := 2027) (pc := 76) C dX8_sack_76 a_27 (by decide) (by omega) rfl (r_2027 _) (fun v76 e76 l76 u76 => ?_)
      exact zs_iret (pc := 77) C hr hlk dX8_sack_77 ⟨rfl, trivial⟩
    · skip
      refine zs_tabIn (pc := 17) (tgt := 78) C 2 dX8_sack_17 h17 (by decide) rfl (by decide) ?_
      refine zs_aload_n (pc := 78) C dX8_sack_78 rfl ?_
      refine zs_getf (pc := 79) C dX8_sack_79 w_X8_34 f_9_4 (by decide) ?_
      refine zs_getf (pc := 82) C dX8_sack_82 w_X8_172 f_8_1 (by decide) ?_
      refine zs_getf (pc := 85) C dX8_sack_85 w_X8_206 f_5_2 (by decide) ?_
      refine zs_iload_n (pc := 88) C dX8_sack_88 rfl ?_
      refine zs_iald (r := 2028) (pc := 89) C dX8_sack_89 a_28 (by decide) (by omega) rfl (r_2028 _) (fun v89 e89 l89 u89 => ?_)
      exact zs_iret (pc := 90) C hr hlk dX8_sack_90 ⟨rfl, trivial⟩
    · skip
      refine zs_tabIn (pc := 17) (tgt := 91) C 3 dX8_sack_17 h17 (by decide) rfl (by decide) ?_
      refine zs_aload_n (pc := 91) C dX8_sack_91 rfl ?_
      refine zs_getf (pc := 92) C dX8_sack_92 w_X8_34 f_9_4 (by decide) ?_
      refine zs_getf (pc := 95) C dX8_sack_95 w_X8_172 f_8_1 (by decide) ?_
      refine zs_getf (pc := 98) C dX8_sack_98 w_X8_209 f_5_4 (by decide) ?_
      refine zs_iload_n (pc := 101) C dX8_sack_101 rfl ?_
      refine zs_iald (r := 2030) (pc := 102) C dX8_sack_102 a_30 (by decide) (by omega) rfl (r_2030 _) (fun v102 e102 l102 u102 => ?_)
      exact zs_iret (pc := 103) C hr hlk dX8_sack_103 ⟨rfl, trivial⟩
    · skip
      refine zs_tabIn (pc := 17) (tgt := 104) C 4 dX8_sack_17 h17 (by decide) rfl (by decide) ?_
      refine zs_aload_n (pc := 104) C dX8_sack_104 rfl ?_
      refine zs_getf (pc := 105) C dX8_sack_105 w_X8_34 f_9_4 (by decide) ?_
      refine zs_getf (pc := 108) C dX8_sack_108 w_X8_172 f_8_1 (by decide) ?_
      refine zs_iload_n (pc := 111) C dX8_sack_111 rfl ?_
      refine zs_aload_n (pc := 112) C dX8_sack_112 rfl ?_
      refine zs_getf (pc := 113) C dX8_sack_113 w_X8_34 f_9_4 (by decide) ?_
      refine zs_getf (pc := 116) C dX8_sack_116 w_X8_172 f_8_1 (by decide) ?_
      refine zs_getf (pc := 119) C dX8_sack_119 w_X8_203 f_5_1 (by decide) ?_
      refine zs_iload_n (pc := 122) C dX8_sack_122 rfl ?_
      refine zs_iald (r := 2027) (pc := 123) C dX8_sack_123 a_27 (by decide) (by omega) rfl (r_2027 _) (fun v123 e123 l123 u123 => ?_)
      refine zVip2 (pc := 124) C dX8_sack_124 v_X8_212 (c_X4_lieBy hX (by omega)) (by decide) (by decide) ⟨Nat.zero_le _, Nat.zero_le _⟩ (Nat.le_of_ble_eq_true rfl) (fun x124 l124 u124 hp124 => ?_)
      have hq124 := hp124
      exact zs_iret (pc := 127) C hr hlk dX8_sack_127 ⟨rfl, trivial⟩
    · skip
      refine zs_tabOut (tgt := 128) (pc := 17) C dX8_sack_17 h17 (by decide) ?_
      refine zs_iconst (pc := 128) C dX8_sack_128 (by decide) ?_
      exact zs_iret (pc := 129) C hr hlk dX8_sack_129 ⟨rfl, trivial⟩
  · skip
    refine zs_iconst (pc := 14) C dX8_sack_14 (by decide) ?_
    exact zs_iret (pc := 15) C hr hlk dX8_sack_15 ⟨rfl, trivial⟩

set_option maxHeartbeats 4000000 in
set_option maxRecDepth 100000 in
theorem c_X8_isFine {l : Launch} {Γ : zΓ} {G : zH} {a : Int} (hX : zXs Γ)  : zMet l Γ yX8_isFine cX8_isFine 1 (some .boolean) 0 [zi a] G (zpi (fun x G' => G' = G ∧ (x = 0 ∨ x = 1))) := by
  refine zMet_of RX8 hX (by decide) rfl (Nat.le_of_ble_eq_true rfl) ?_
  intro p e s m args below meth c C hr hlk
  show Z p l e (zrm 0) s m args below meth c Γ 1 0 0 (MQ below (zQc Γ (zpi (fun x G' => G' = G ∧ (x = 0 ∨ x = 1)))) args s 0 0 (zA Γ)) 0 [some (zi a)] [] G
  refine zs_loc 0 rfl (fun ha0 hb0 => ?_)
  refine zs_iload_n (pc := 0) C dX8_isFine_0 rfl ?_
  refine zs_if_lt (tgt := 15) (pc := 1) C dX8_isFine_1 (by decide) (fun h1 => ?_) (fun h1 => ?_)
  · skip
    refine zs_iconst (pc := 15) C dX8_isFine_15 (by decide) ?_
    exact zs_zret (pc := 16) C hr hlk dX8_isFine_16 (by omega) ⟨rfl, by first | omega | (simp only [zuI_1, zuI_2, zuJ_1, zuJ_2, zuJ_3, zuP_1, zuP_2, zuP_3, zuC_1, zuC_2, reduceIte, Nat.reduceEqDiff, false_and, and_false, true_and, and_true, and_self, or_true, true_or, or_false, false_or]; omega)⟩
  · skip
    refine zs_iload_n (pc := 4) C dX8_isFine_4 rfl ?_
    refine zs_sipush (pc := 5) C dX8_isFine_5 (by decide) (by decide) ?_
    refine zs_icmp_gt (tgt := 15) (pc := 8) C dX8_isFine_8 (by decide) (fun h8 => ?_) (fun h8 => ?_)
    · skip
      refine zs_iconst (pc := 15) C dX8_isFine_15 (by decide) ?_
      exact zs_zret (pc := 16) C hr hlk dX8_isFine_16 (by omega) ⟨rfl, by first | omega | (simp only [zuI_1, zuI_2, zuJ_1, zuJ_2, zuJ_3, zuP_1, zuP_2, zuP_3, zuC_1, zuC_2, reduceIte, Nat.reduceEqDiff, false_and, and_false, true_and, and_true, and_self, or_true, true_or, or_false, false_or]; omega)⟩
    · skip
      refine zs_iconst (pc := 11) C dX8_isFine_11 (by decide) ?_
      refine zs_goto (tgt := 16) (pc := 12) C dX8_isFine_12 (by decide) ?_
      exact zs_zret (pc := 16) C hr hlk dX8_isFine_16 (by omega) ⟨rfl, by first | omega | (simp only [zuI_1, zuI_2, zuJ_1, zuJ_2, zuJ_3, zuP_1, zuP_2, zuP_3, zuC_1, zuC_2, reduceIte, Nat.reduceEqDiff, false_and, and_false, true_and, and_true, and_self, or_true, true_or, or_false, false_or]; omega)⟩

set_option maxHeartbeats 4000000 in
set_option maxRecDepth 100000 in
theorem c_X8_flour {l : Launch} {Γ : zΓ} {G : zH} {w : Nat} {a : Int} (hX : zXs Γ)  : zMet l Γ yX8_flour cX8_flour 2 (some .int) 1 [zr 9 w, zi a] G (zpi (fun x G' => G' = G ∧ True)) := by
  refine zMet_of RX8 hX (by decide) rfl (Nat.le_of_ble_eq_true rfl) ?_
  intro p e s m args below meth c C hr hlk
  show Z p l e (zrm 1) s m args below meth c Γ 2 0 0 (MQ below (zQc Γ (zpi (fun x G' => G' = G ∧ True))) args s 0 0 (zA Γ)) 0 [some (zr 9 w), some (zi a)] [] G
  refine zs_loc 1 rfl (fun ha1 hb1 => ?_)
  refine zs_iload_n (pc := 0) C dX8_flour_0 rfl ?_
  refine zSip1 (pc := 1) C dX8_flour_1 s_X8_215 (c_X8_isFine hX ) (by decide) ⟨Nat.zero_le _, Nat.zero_le _⟩ (Nat.le_of_ble_eq_true rfl) (fun x1 l1 u1 hp1 => ?_)
  have hq1 := hp1
  refine zs_if_eq (tgt := 21) (pc := 4) C dX8_flour_4 (by decide) (fun h4 => ?_) (fun h4 => ?_)
  · skip
    refine zs_iconst (pc := 21) C dX8_flour_21 (by decide) ?_
    exact zs_iret (pc := 22) C hr hlk dX8_flour_22 ⟨rfl, trivial⟩
  · skip
    refine zs_aload_n (pc := 7) C dX8_flour_7 rfl ?_
    refine zs_getf (pc := 8) C dX8_flour_8 w_X8_34 f_9_4 (by decide) ?_
    refine zs_getf (pc := 11) C dX8_flour_11 w_X8_172 f_8_1 (by decide) ?_
    refine zs_iload_n (pc := 14) C dX8_flour_14 rfl ?_
    refine zVip1 (pc := 15) C dX8_flour_15 v_X8_218 (c_X4_flourFrom hX ) (by decide) (by decide) ⟨Nat.zero_le _, Nat.zero_le _⟩ (Nat.le_of_ble_eq_true rfl) (fun x15 l15 u15 hp15 => ?_)
    have hq15 := hp15
    refine zs_goto (tgt := 22) (pc := 18) C dX8_flour_18 (by decide) ?_
    exact zs_iret (pc := 22) C hr hlk dX8_flour_22 ⟨rfl, trivial⟩

set_option maxHeartbeats 4000000 in
set_option maxRecDepth 100000 in
theorem c_X8_bake {l : Launch} {Γ : zΓ} {G : zH} {w : Nat} {p0 : Int} (hX : zXs Γ)  : zMet l Γ yX8_bake cX8_bake 2 (some .boolean) 3 [zr 9 w, zi p0] G (zpi (fun x G' => zsn [2054, 2030, 2053, 2020, 2056, 910] G G' ∧ (x = 0 ∨ x = 1))) := by
  refine zMet_of RX8 hX (by decide) rfl (Nat.le_of_ble_eq_true rfl) ?_
  intro p e s m args below meth c C hr hlk
  show Z p l e (zrm 3) s m args below meth c Γ 2 0 0 (MQ below (zQc Γ (zpi (fun x G' => zsn [2054, 2030, 2053, 2020, 2056, 910] G G' ∧ (x = 0 ∨ x = 1)))) args s 0 0 (zA Γ)) 0 [some (zr 9 w), some (zi p0)] [] G
  refine zs_loc 1 rfl (fun ha1 hb1 => ?_)
  refine zs_aload_n (pc := 0) C dX8_bake_0 rfl ?_
  refine zs_getd (r := 903) (pc := 1) C dX8_bake_1 w_X8_25 f_9_3 (by decide) rfl (fun v1 e1 t1 => ?_)
  refine zs_iconst (pc := 4) C dX8_bake_4 (by decide) ?_
  refine zs_iload_n (pc := 5) C dX8_bake_5 rfl ?_
  refine zVip2 (pc := 6) C dX8_bake_6 v_X8_104 (c_X5_has hX (by omega)) (by decide) (by decide) ⟨Nat.zero_le _, Nat.zero_le _⟩ (Nat.le_of_ble_eq_true rfl) (fun x6 l6 u6 hp6 => ?_)
  have hq6 := hp6
  refine zs_if_eq (tgt := 42) (pc := 9) C dX8_bake_9 (by decide) (fun h9 => ?_) (fun h9 => ?_)
  · skip
    refine zs_iconst (pc := 42) C dX8_bake_42 (by decide) ?_
    exact zs_zret (pc := 43) C hr hlk dX8_bake_43 (by omega) ⟨by repeat (first | exact zsn_rf | assumption | refine zsn_C (by decide) ?_ | refine zsn_I (by decide) ?_ | refine zsn_J ?_ | refine zsn_P ?_ | refine zsn_m (by assumption) (by decide) ?_ | refine zsn_c (by assumption) (by decide) ?_), by first | omega | (simp only [zuI_1, zuI_2, zuJ_1, zuJ_2, zuJ_3, zuP_1, zuP_2, zuP_3, zuC_1, zuC_2, reduceIte, Nat.reduceEqDiff, false_and, and_false, true_and, and_true, and_self, or_true, true_or, or_false, false_or]; omega)⟩
  · skip
    refine zs_aload_n (pc := 12) C dX8_bake_12 rfl ?_
    refine zs_getf (pc := 13) C dX8_bake_13 w_X8_34 f_9_4 (by decide) ?_
    refine zs_geti (r := 809) (pc := 16) C dX8_bake_16 w_X8_221 f_8_9 rfl (r_809 0) (fun v16 e16 l16 u16 => ?_)
    refine zs_aload_n (pc := 19) C dX8_bake_19 rfl ?_
    refine zs_getd (r := 903) (pc := 20) C dX8_bake_20 w_X8_25 f_9_3 (by decide) rfl (fun v20 e20 t20 => ?_)
    refine zs_getf (pc := 23) C dX8_bake_23 w_X8_224 f_6_8 (by decide) ?_
    refine zs_iload_n (pc := 26) C dX8_bake_26 rfl ?_
    refine zs_iald (r := 2043) (pc := 27) C dX8_bake_27 a_43 (by decide) (by omega) rfl (r_2043 _) (fun v27 e27 l27 u27 => ?_)
    refine zs_icmp_gt (tgt := 42) (pc := 28) C dX8_bake_28 (by decide) (fun h28 => ?_) (fun h28 => ?_)
    · skip
      refine zs_iconst (pc := 42) C dX8_bake_42 (by decide) ?_
      exact zs_zret (pc := 43) C hr hlk dX8_bake_43 (by omega) ⟨by repeat (first | exact zsn_rf | assumption | refine zsn_C (by decide) ?_ | refine zsn_I (by decide) ?_ | refine zsn_J ?_ | refine zsn_P ?_ | refine zsn_m (by assumption) (by decide) ?_ | refine zsn_c (by assumption) (by decide) ?_), by first | omega | (simp only [zuI_1, zuI_2, zuJ_1, zuJ_2, zuJ_3, zuP_1, zuP_2, zuP_3, zuC_1, zuC_2, reduceIte, Nat.reduceEqDiff, false_and, and_false, true_and, and_true, and_self, or_true, true_or, or_false, false_or]; omega)⟩
    · skip
      refine zs_aload_n (pc := 31) C dX8_bake_31 rfl ?_
      refine zs_getf (pc := 32) C dX8_bake_32 w_X8_34 f_9_4 (by decide) ?_
      refine zs_iload_n (pc := 35) C dX8_bake_35 rfl ?_
      refine zVi1 (pc := 36) C dX8_bake_36 v_X8_227 (c_X7_bakeOne hX (by omega)) (by decide) (by decide) ⟨Nat.zero_le _, Nat.zero_le _⟩ (Nat.le_of_ble_eq_true rfl) (fun x36 G36 l36 u36 hp36 => ?_)
      obtain ⟨hz36, hq36⟩ := hp36
      refine zs_if_ne (tgt := 44) (pc := 39) C dX8_bake_39 (by decide) (fun h39 => ?_) (fun h39 => ?_)
      · skip
        refine zs_aload_n (pc := 44) C dX8_bake_44 rfl ?_
        refine zs_bipush (pc := 45) C dX8_bake_45 (by decide) (by decide) ?_
        refine zs_iload_n (pc := 47) C dX8_bake_47 rfl ?_
        first | refine zs_iadd (pc := 48) C dX8_bake_48 (by omega) ?_ | refine zs_iaddF (pc := 48) C dX8_bake_48 (fun z48 hz481 hz482 => ?_)
        refine zVv1 (pc := 49) C dX8_bake_49 v_X8_169 (c_X8_remember hX (by omega)) (by decide) (by decide) ⟨Nat.zero_le _, Nat.zero_le _⟩ (Nat.le_of_ble_eq_true rfl) (fun G49 hp49 => ?_)
        obtain ⟨hz49, hq49⟩ := hp49
        refine zs_iconst (pc := 52) C dX8_bake_52 (by decide) ?_
        exact zs_zret (pc := 53) C hr hlk dX8_bake_53 (by omega) ⟨by repeat (first | exact zsn_rf | assumption | refine zsn_C (by decide) ?_ | refine zsn_I (by decide) ?_ | refine zsn_J ?_ | refine zsn_P ?_ | refine zsn_m (by assumption) (by decide) ?_ | refine zsn_c (by assumption) (by decide) ?_), by first | omega | (simp only [zuI_1, zuI_2, zuJ_1, zuJ_2, zuJ_3, zuP_1, zuP_2, zuP_3, zuC_1, zuC_2, reduceIte, Nat.reduceEqDiff, false_and, and_false, true_and, and_true, and_self, or_true, true_or, or_false, false_or]; omega)⟩
      · skip
        refine zs_iconst (pc := 42) C dX8_bake_42 (by decide) ?_
        exact zs_zret (pc := 43) C hr hlk dX8_bake_43 (by omega) ⟨by repeat (first | exact zsn_rf | assumption | refine zsn_C (by decide) ?_ | refine zsn_I (by decide) ?_ | refine zsn_J ?_ | refine zsn_P ?_ | refine zsn_m (by assumption) (by decide) ?_ | refine zsn_c (by assumption) (by decide) ?_), by first | omega | (simp only [zuI_1, zuI_2, zuJ_1, zuJ_2, zuJ_3, zuP_1, zuP_2, zuP_3, zuC_1, zuC_2, reduceIte, Nat.reduceEqDiff, false_and, and_false, true_and, and_true, and_self, or_true, true_or, or_false, false_or]; omega)⟩

set_option maxHeartbeats 4000000 in
set_option maxRecDepth 100000 in
theorem c_X8_baked {l : Launch} {Γ : zΓ} {G : zH} {w : Nat} {p0 : Int} (hX : zXs Γ)  : zMet l Γ yX8_baked cX8_baked 2 (some .int) 1 [zr 9 w, zi p0] G (zpi (fun x G' => G' = G ∧ True)) := by
  refine zMet_of RX8 hX (by decide) rfl (Nat.le_of_ble_eq_true rfl) ?_
  intro p e s m args below meth c C hr hlk
  show Z p l e (zrm 1) s m args below meth c Γ 2 0 0 (MQ below (zQc Γ (zpi (fun x G' => G' = G ∧ True))) args s 0 0 (zA Γ)) 0 [some (zr 9 w), some (zi p0)] [] G
  refine zs_loc 1 rfl (fun ha1 hb1 => ?_)
  refine zs_aload_n (pc := 0) C dX8_baked_0 rfl ?_
  refine zs_getd (r := 903) (pc := 1) C dX8_baked_1 w_X8_25 f_9_3 (by decide) rfl (fun v1 e1 t1 => ?_)
  refine zs_iconst (pc := 4) C dX8_baked_4 (by decide) ?_
  refine zs_iload_n (pc := 5) C dX8_baked_5 rfl ?_
  refine zVip2 (pc := 6) C dX8_baked_6 v_X8_104 (c_X5_has hX (by omega)) (by decide) (by decide) ⟨Nat.zero_le _, Nat.zero_le _⟩ (Nat.le_of_ble_eq_true rfl) (fun x6 l6 u6 hp6 => ?_)
  have hq6 := hp6
  refine zs_if_ne (tgt := 14) (pc := 9) C dX8_baked_9 (by decide) (fun h9 => ?_) (fun h9 => ?_)
  · skip
    refine zs_aload_n (pc := 14) C dX8_baked_14 rfl ?_
    refine zs_getf (pc := 15) C dX8_baked_15 w_X8_34 f_9_4 (by decide) ?_
    refine zs_iload_n (pc := 18) C dX8_baked_18 rfl ?_
    refine zVip1 (pc := 19) C dX8_baked_19 v_X8_230 (c_X7_isBaked hX (by omega)) (by decide) (by decide) ⟨Nat.zero_le _, Nat.zero_le _⟩ (Nat.le_of_ble_eq_true rfl) (fun x19 l19 u19 hp19 => ?_)
    have hq19 := hp19
    refine zs_if_eq (tgt := 37) (pc := 22) C dX8_baked_22 (by decide) (fun h22 => ?_) (fun h22 => ?_)
    · skip
      refine zs_bipush (pc := 37) C dX8_baked_37 (by decide) (by decide) ?_
      exact zs_iret (pc := 39) C hr hlk dX8_baked_39 ⟨rfl, trivial⟩
    · skip
      refine zs_aload_n (pc := 25) C dX8_baked_25 rfl ?_
      refine zs_getf (pc := 26) C dX8_baked_26 w_X8_34 f_9_4 (by decide) ?_
      refine zs_getf (pc := 29) C dX8_baked_29 w_X8_233 f_8_7 (by decide) ?_
      refine zs_iload_n (pc := 32) C dX8_baked_32 rfl ?_
      refine zs_iald (r := 2053) (pc := 33) C dX8_baked_33 a_53 (by decide) (by omega) rfl (r_2053 _) (fun v33 e33 l33 u33 => ?_)
      refine zs_goto (tgt := 39) (pc := 34) C dX8_baked_34 (by decide) ?_
      exact zs_iret (pc := 39) C hr hlk dX8_baked_39 ⟨rfl, trivial⟩
  · skip
    refine zs_iconst (pc := 12) C dX8_baked_12 (by decide) ?_
    exact zs_iret (pc := 13) C hr hlk dX8_baked_13 ⟨rfl, trivial⟩

set_option maxHeartbeats 4000000 in
set_option maxRecDepth 100000 in
theorem c_X8_areDays {l : Launch} {Γ : zΓ} {G : zH} {w : Nat} {k : Int} (hX : zXs Γ)  : zMet l Γ yX8_areDays cX8_areDays 2 (some .boolean) 0 [zr 9 w, zi k] G (zpi (fun x G' => G' = G ∧ (x = 0 ∨ x = 1))) := by
  refine zMet_of RX8 hX (by decide) rfl (Nat.le_of_ble_eq_true rfl) ?_
  intro p e s m args below meth c C hr hlk
  show Z p l e (zrm 0) s m args below meth c Γ 2 0 0 (MQ below (zQc Γ (zpi (fun x G' => G' = G ∧ (x = 0 ∨ x = 1)))) args s 0 0 (zA Γ)) 0 [some (zr 9 w), some (zi k)] [] G
  refine zs_loc 1 rfl (fun ha1 hb1 => ?_)
  refine zs_iload_n (pc := 0) C dX8_areDays_0 rfl ?_
  refine zs_if_lt (tgt := 22) (pc := 1) C dX8_areDays_1 (by decide) (fun h1 => ?_) (fun h1 => ?_)
  · skip
    refine zs_iconst (pc := 22) C dX8_areDays_22 (by decide) ?_
    exact zs_zret (pc := 23) C hr hlk dX8_areDays_23 (by omega) ⟨rfl, by first | omega | (simp only [zuI_1, zuI_2, zuJ_1, zuJ_2, zuJ_3, zuP_1, zuP_2, zuP_3, zuC_1, zuC_2, reduceIte, Nat.reduceEqDiff, false_and, and_false, true_and, and_true, and_self, or_true, true_or, or_false, false_or]; omega)⟩
  · skip
    refine zs_iload_n (pc := 4) C dX8_areDays_4 rfl ?_
    refine zs_bipush (pc := 5) C dX8_areDays_5 (by decide) (by decide) ?_
    refine zs_aload_n (pc := 7) C dX8_areDays_7 rfl ?_
    refine zs_getf (pc := 8) C dX8_areDays_8 w_X8_34 f_9_4 (by decide) ?_
    refine zs_geti (r := 809) (pc := 11) C dX8_areDays_11 w_X8_221 f_8_9 rfl (r_809 0) (fun v11 e11 l11 u11 => ?_)
    first | refine zs_isub (pc := 14) C dX8_areDays_14 (by omega) ?_ | refine zs_isubF (pc := 14) C dX8_areDays_14 (fun z14 hz141 hz142 => ?_)
    refine zs_icmp_gt (tgt := 22) (pc := 15) C dX8_areDays_15 (by decide) (fun h15 => ?_) (fun h15 => ?_)
    · skip
      refine zs_iconst (pc := 22) C dX8_areDays_22 (by decide) ?_
      exact zs_zret (pc := 23) C hr hlk dX8_areDays_23 (by omega) ⟨rfl, by first | omega | (simp only [zuI_1, zuI_2, zuJ_1, zuJ_2, zuJ_3, zuP_1, zuP_2, zuP_3, zuC_1, zuC_2, reduceIte, Nat.reduceEqDiff, false_and, and_false, true_and, and_true, and_self, or_true, true_or, or_false, false_or]; omega)⟩
    · skip
      refine zs_iconst (pc := 18) C dX8_areDays_18 (by decide) ?_
      refine zs_goto (tgt := 23) (pc := 19) C dX8_areDays_19 (by decide) ?_
      exact zs_zret (pc := 23) C hr hlk dX8_areDays_23 (by omega) ⟨rfl, by first | omega | (simp only [zuI_1, zuI_2, zuJ_1, zuJ_2, zuJ_3, zuP_1, zuP_2, zuP_3, zuC_1, zuC_2, reduceIte, Nat.reduceEqDiff, false_and, and_false, true_and, and_true, and_self, or_true, true_or, or_false, false_or]; omega)⟩

set_option maxHeartbeats 4000000 in
set_option maxRecDepth 100000 in
theorem c_X8_days {l : Launch} {Γ : zΓ} {G : zH} {w : Nat} {k : Int} (hX : zXs Γ)  : zMet l Γ yX8_days cX8_days 3 (some .int) 5 [zr 9 w, zi k] G (zpi (fun x G' => zsn [510, 2026, 2027, 2028, 2029, 2030, 2031, 2032, 2033, 2034, 2035, 810, 811, 2049, 2050, 2051, 2054, 2053, 809, 910, 2020] G G' ∧ True)) := by
  refine zMet_of RX8 hX (by decide) rfl (Nat.le_of_ble_eq_true rfl) ?_
  intro p e s m args below meth c C hr hlk
  show Z p l e (zrm 5) s m args below meth c Γ 3 0 0 (MQ below (zQc Γ (zpi (fun x G' => zsn [510, 2026, 2027, 2028, 2029, 2030, 2031, 2032, 2033, 2034, 2035, 810, 811, 2049, 2050, 2051, 2054, 2053, 809, 910, 2020] G G' ∧ True))) args s 0 0 (zA Γ)) 0 [some (zr 9 w), some (zi k), none] [] G
  refine zs_loc 1 rfl (fun ha1 hb1 => ?_)
  refine zs_aload_n (pc := 0) C dX8_days_0 rfl ?_
  refine zs_iload_n (pc := 1) C dX8_days_1 rfl ?_
  refine zVip1 (pc := 2) C dX8_days_2 v_X8_236 (c_X8_areDays hX ) (by decide) (by decide) ⟨Nat.zero_le _, Nat.zero_le _⟩ (Nat.le_of_ble_eq_true rfl) (fun x2 l2 u2 hp2 => ?_)
  have hq2 := hp2
  refine zs_if_ne (tgt := 10) (pc := 5) C dX8_days_5 (by decide) (fun h5 => ?_) (fun h5 => ?_)
  · skip
    refine zs_iconst (pc := 10) C dX8_days_10 (by decide) ?_
    refine zs_istore_n (pc := 11) C dX8_days_11 (by decide) ?_
    dsimp only [zset, zclr, znone]
    have L12 : ∀ (nn : Nat) (x2 : Int) (G1 : zH), (0 ≤ x2) → (zsn [510, 2026, 2027, 2028, 2029, 2030, 2031, 2032, 2033, 2034, 2035, 810, 811, 2049, 2050, 2051, 2054, 2053, 809, 910, 2020] G G1) → (k - x2).toNat < nn → Z p l e (zrm 5) s m args below meth c Γ 3 0 0 (MQ below (zQc Γ (zpi (fun x G' => zsn [510, 2026, 2027, 2028, 2029, 2030, 2031, 2032, 2033, 2034, 2035, 810, 811, 2049, 2050, 2051, 2054, 2053, 809, 910, 2020] G G' ∧ True))) args s 0 0 (zA Γ)) 12 [some (zr 9 w), some (zi k), some (zi x2)] [] G1 := by
      intro nn
      induction nn with
      | zero => intro x2 G1 h12_0 h12_1 hm; exact absurd hm (Nat.not_lt_zero _)
      | succ nn ih12 =>
        intro x2 G1 h12_0 h12_1 hm12
        refine zs_iload_n (pc := 12) C dX8_days_12 rfl ?_
        refine zs_iload_n (pc := 13) C dX8_days_13 rfl ?_
        refine zs_icmp_ge (tgt := 52) (pc := 14) C dX8_days_14 (by decide) (fun h14 => ?_) (fun h14 => ?_)
        · skip
          refine zs_iload_n (pc := 52) C dX8_days_52 rfl ?_
          refine zs_if_le (tgt := 68) (pc := 53) C dX8_days_53 (by decide) (fun h53 => ?_) (fun h53 => ?_)
          · skip
            refine zs_aload_n (pc := 68) C dX8_days_68 rfl ?_
            refine zs_getf (pc := 69) C dX8_days_69 w_X8_34 f_9_4 (by decide) ?_
            refine zs_geti (r := 809) (pc := 72) C dX8_days_72 w_X8_221 f_8_9 rfl (r_809 0) (fun v72 e72 l72 u72 => ?_)
            exact zs_iret (pc := 75) C hr hlk dX8_days_75 ⟨by repeat (first | exact zsn_rf | assumption | refine zsn_C (by decide) ?_ | refine zsn_I (by decide) ?_ | refine zsn_J ?_ | refine zsn_P ?_ | refine zsn_m (by assumption) (by decide) ?_ | refine zsn_c (by assumption) (by decide) ?_), trivial⟩
          · skip
            refine zs_aload_n (pc := 56) C dX8_days_56 rfl ?_
            refine zs_iconst (pc := 57) C dX8_days_57 (by decide) ?_
            refine zs_puti (r := 910) (pc := 58) C dX8_days_58 w_X8_94 f_9_10 rfl (r_910 0) (by omega) ?_
            refine zs_aload_n (pc := 61) C dX8_days_61 rfl ?_
            refine zs_getf (pc := 62) C dX8_days_62 w_X8_49 f_9_7 (by decide) ?_
            refine zVv0 (pc := 65) C dX8_days_65 v_X8_97 (c_X2_forget hX ) (by decide) (by decide) ⟨Nat.zero_le _, Nat.zero_le _⟩ (Nat.le_of_ble_eq_true rfl) (fun G65 hp65 => ?_)
            obtain ⟨hz65, hq65⟩ := hp65
            try simp only [zuI_1, zuI_2, zuJ_1, zuJ_2, zuJ_3, zuP_1, zuP_2, zuP_3, zuC_1, zuC_2, reduceIte, Nat.reduceEqDiff, false_and, and_false, true_and, and_true, and_self, or_true, true_or, or_false, false_or] at hq65
            refine zs_aload_n (pc := 68) C dX8_days_68 rfl ?_
            refine zs_getf (pc := 69) C dX8_days_69 w_X8_34 f_9_4 (by decide) ?_
            refine zs_geti (r := 809) (pc := 72) C dX8_days_72 w_X8_221 f_8_9 rfl (r_809 0) (fun v72 e72 l72 u72 => ?_)
            exact zs_iret (pc := 75) C hr hlk dX8_days_75 ⟨by repeat (first | exact zsn_rf | assumption | refine zsn_C (by decide) ?_ | refine zsn_I (by decide) ?_ | refine zsn_J ?_ | refine zsn_P ?_ | refine zsn_m (by assumption) (by decide) ?_ | refine zsn_c (by assumption) (by decide) ?_), trivial⟩
        · skip
          refine zs_aload_n (pc := 17) C dX8_days_17 rfl ?_
          refine zs_getf (pc := 18) C dX8_days_18 w_X8_34 f_9_4 (by decide) ?_
          refine zs_iconst (pc := 21) C dX8_days_21 (by decide) ?_
          refine zs_iconst (pc := 22) C dX8_days_22 (by decide) ?_
          refine zVv2 (pc := 23) C dX8_days_23 v_X8_239 (c_X7_confessOfDay hX ) (by decide) (by decide) ⟨Nat.zero_le _, Nat.zero_le _⟩ (Nat.le_of_ble_eq_true rfl) (fun G23 hp23 => ?_)
          obtain ⟨hz23, hq23⟩ := hp23
          refine zs_aload_n (pc := 26) C dX8_days_26 rfl ?_
          refine zs_getf (pc := 27) C dX8_days_27 w_X8_34 f_9_4 (by decide) ?_
          refine zVv0 (pc := 30) C dX8_days_30 v_X8_242 (c_X7_bakeOfDay hX ) (by decide) (by decide) ⟨Nat.zero_le _, Nat.zero_le _⟩ (Nat.le_of_ble_eq_true rfl) (fun G30 hp30 => ?_)
          obtain ⟨hz30, hq30⟩ := hp30
          refine zs_aload_n (pc := 33) C dX8_days_33 rfl ?_
          refine zs_getf (pc := 34) C dX8_days_34 w_X8_34 f_9_4 (by decide) ?_
          refine zs_dupa (pc := 37) C dX8_days_37 ?_
          refine zs_geti (r := 809) (pc := 38) C dX8_days_38 w_X8_221 f_8_9 rfl (r_809 0) (fun v38 e38 l38 u38 => ?_)
          refine zs_iconst (pc := 41) C dX8_days_41 (by decide) ?_
          first | refine zs_iadd (pc := 42) C dX8_days_42 (by omega) ?_ | refine zs_iaddF (pc := 42) C dX8_days_42 (fun z42 hz421 hz422 => ?_)
          refine zs_puti (r := 809) (pc := 43) C dX8_days_43 w_X8_221 f_8_9 rfl (r_809 0) (by omega) ?_
          first | refine zs_iinc (pc := 46) C dX8_days_46 rfl (by decide) (by omega) ?_ | refine zs_iincF (pc := 46) C dX8_days_46 rfl (by decide) (fun z46 hz461 hz462 => ?_)
          dsimp only [zset, zclr, znone]
          refine zs_goto (tgt := 12) (pc := 49) C dX8_days_49 (by decide) ?_
          exact zs_wk (ih12 _ _ (by first | omega | (simp only [zuI_1, zuI_2, zuJ_1, zuJ_2, zuJ_3, zuP_1, zuP_2, zuP_3, zuC_1, zuC_2, reduceIte, Nat.reduceEqDiff, false_and, and_false, true_and, and_true, and_self, or_true, true_or, or_false, false_or]; omega)) (by repeat (first | exact zsn_rf | assumption | refine zsn_C (by decide) ?_ | refine zsn_I (by decide) ?_ | refine zsn_J ?_ | refine zsn_P ?_ | refine zsn_m (by assumption) (by decide) ?_ | refine zsn_c (by assumption) (by decide) ?_)) (by first | omega | (simp only [zuI_1, zuI_2, zuJ_1, zuJ_2, zuJ_3, zuP_1, zuP_2, zuP_3, zuC_1, zuC_2, reduceIte, Nat.reduceEqDiff, false_and, and_false, true_and, and_true, and_self, or_true, true_or, or_false, false_or]; omega))) (zwk_s rfl (zwk_s rfl (zwk_s rfl zwk_0)))
    exact zs_wk (L12 _ _ _ (by first | omega | (simp only [zuI_1, zuI_2, zuJ_1, zuJ_2, zuJ_3, zuP_1, zuP_2, zuP_3, zuC_1, zuC_2, reduceIte, Nat.reduceEqDiff, false_and, and_false, true_and, and_true, and_self, or_true, true_or, or_false, false_or]; omega)) (by repeat (first | exact zsn_rf | assumption | refine zsn_C (by decide) ?_ | refine zsn_I (by decide) ?_ | refine zsn_J ?_ | refine zsn_P ?_ | refine zsn_m (by assumption) (by decide) ?_ | refine zsn_c (by assumption) (by decide) ?_)) (Nat.lt_succ_self _)) (zwk_s rfl (zwk_s rfl (zwk_s rfl zwk_0)))
  · skip
    refine zs_iconst (pc := 8) C dX8_days_8 (by decide) ?_
    exact zs_iret (pc := 9) C hr hlk dX8_days_9 ⟨by repeat (first | exact zsn_rf | assumption | refine zsn_C (by decide) ?_ | refine zsn_I (by decide) ?_ | refine zsn_J ?_ | refine zsn_P ?_ | refine zsn_m (by assumption) (by decide) ?_ | refine zsn_c (by assumption) (by decide) ?_), trivial⟩

set_option maxHeartbeats 4000000 in
set_option maxRecDepth 100000 in
theorem c_X8_isOpen {l : Launch} {Γ : zΓ} {G : zH} {w : Nat} {p0 : Int} (hX : zXs Γ)  : zMet l Γ yX8_isOpen cX8_isOpen 2 (some .boolean) 1 [zr 9 w, zi p0] G (zpi (fun x G' => G' = G ∧ ((x = 0 ∨ x = 1) ∧ (x = 1 → 0 ≤ p0 ∧ p0 ≤ 4)))) := by
  refine zMet_of RX8 hX (by decide) rfl (Nat.le_of_ble_eq_true rfl) ?_
  intro p e s m args below meth c C hr hlk
  show Z p l e (zrm 1) s m args below meth c Γ 2 0 0 (MQ below (zQc Γ (zpi (fun x G' => G' = G ∧ ((x = 0 ∨ x = 1) ∧ (x = 1 → 0 ≤ p0 ∧ p0 ≤ 4))))) args s 0 0 (zA Γ)) 0 [some (zr 9 w), some (zi p0)] [] G
  refine zs_loc 1 rfl (fun ha1 hb1 => ?_)
  refine zs_aload_n (pc := 0) C dX8_isOpen_0 rfl ?_
  refine zs_getd (r := 903) (pc := 1) C dX8_isOpen_1 w_X8_25 f_9_3 (by decide) rfl (fun v1 e1 t1 => ?_)
  refine zs_iconst (pc := 4) C dX8_isOpen_4 (by decide) ?_
  refine zs_iload_n (pc := 5) C dX8_isOpen_5 rfl ?_
  refine zVip2 (pc := 6) C dX8_isOpen_6 v_X8_104 (c_X5_has hX (by omega)) (by decide) (by decide) ⟨Nat.zero_le _, Nat.zero_le _⟩ (Nat.le_of_ble_eq_true rfl) (fun x6 l6 u6 hp6 => ?_)
  have hq6 := hp6
  refine zs_if_eq (tgt := 27) (pc := 9) C dX8_isOpen_9 (by decide) (fun h9 => ?_) (fun h9 => ?_)
  · skip
    refine zs_iconst (pc := 27) C dX8_isOpen_27 (by decide) ?_
    exact zs_zret (pc := 28) C hr hlk dX8_isOpen_28 (by omega) ⟨rfl, by first | omega | (simp only [zuI_1, zuI_2, zuJ_1, zuJ_2, zuJ_3, zuP_1, zuP_2, zuP_3, zuC_1, zuC_2, reduceIte, Nat.reduceEqDiff, false_and, and_false, true_and, and_true, and_self, or_true, true_or, or_false, false_or]; omega)⟩
  · skip
    refine zs_aload_n (pc := 12) C dX8_isOpen_12 rfl ?_
    refine zs_getf (pc := 13) C dX8_isOpen_13 w_X8_34 f_9_4 (by decide) ?_
    refine zs_iload_n (pc := 16) C dX8_isOpen_16 rfl ?_
    refine zVip1 (pc := 17) C dX8_isOpen_17 v_X8_230 (c_X7_isBaked hX (by omega)) (by decide) (by decide) ⟨Nat.zero_le _, Nat.zero_le _⟩ (Nat.le_of_ble_eq_true rfl) (fun x17 l17 u17 hp17 => ?_)
    have hq17 := hp17
    refine zs_if_ne (tgt := 27) (pc := 20) C dX8_isOpen_20 (by decide) (fun h20 => ?_) (fun h20 => ?_)
    · skip
      refine zs_iconst (pc := 27) C dX8_isOpen_27 (by decide) ?_
      exact zs_zret (pc := 28) C hr hlk dX8_isOpen_28 (by omega) ⟨rfl, by first | omega | (simp only [zuI_1, zuI_2, zuJ_1, zuJ_2, zuJ_3, zuP_1, zuP_2, zuP_3, zuC_1, zuC_2, reduceIte, Nat.reduceEqDiff, false_and, and_false, true_and, and_true, and_self, or_true, true_or, or_false, false_or]; omega)⟩
    · skip
      refine zs_iconst (pc := 23) C dX8_isOpen_23 (by decide) ?_
      refine zs_goto (tgt := 28) (pc := 24) C dX8_isOpen_24 (by decide) ?_
      exact zs_zret (pc := 28) C hr hlk dX8_isOpen_28 (by omega) ⟨rfl, by first | omega | (simp only [zuI_1, zuI_2, zuJ_1, zuJ_2, zuJ_3, zuP_1, zuP_2, zuP_3, zuC_1, zuC_2, reduceIte, Nat.reduceEqDiff, false_and, and_false, true_and, and_true, and_self, or_true, true_or, or_false, false_or]; omega)⟩

set_option maxHeartbeats 4000000 in
set_option maxRecDepth 100000 in
theorem c_X8_plan {l : Launch} {Γ : zΓ} {G : zH} {w : Nat} {p0 k : Int} (hX : zXs Γ)  : zMet l Γ yX8_plan cX8_plan 3 (some .int) 19 [zr 9 w, zi p0, zi k] G (zpi (fun x G' => zsn [306, 307, 510, 809, 810, 811, 812, 813, 2020, 2021, 2022, 2023, 2024, 2026, 2027, 2028, 2029, 2030, 2031, 2032, 2033, 2034, 2035, 2048, 2049, 2050, 2051, 2052, 2053] G G' ∧ True)) := by
  refine zMet_of RX8 hX (by decide) rfl (Nat.le_of_ble_eq_true rfl) ?_
  intro p e s m args below meth c C hr hlk
  show Z p l e (zrm 19) s m args below meth c Γ 3 0 0 (MQ below (zQc Γ (zpi (fun x G' => zsn [306, 307, 510, 809, 810, 811, 812, 813, 2020, 2021, 2022, 2023, 2024, 2026, 2027, 2028, 2029, 2030, 2031, 2032, 2033, 2034, 2035, 2048, 2049, 2050, 2051, 2052, 2053] G G' ∧ True))) args s 0 0 (zA Γ)) 0 [some (zr 9 w), some (zi p0), some (zi k)] [] G
  refine zs_loc 1 rfl (fun ha1 hb1 => ?_)
  refine zs_loc 2 rfl (fun ha2 hb2 => ?_)
  refine zs_aload_n (pc := 0) C dX8_plan_0 rfl ?_
  refine zs_iload_n (pc := 1) C dX8_plan_1 rfl ?_
  refine zVip1 (pc := 2) C dX8_plan_2 v_X8_245 (c_X8_isOpen hX ) (by decide) (by decide) ⟨Nat.zero_le _, Nat.zero_le _⟩ (Nat.le_of_ble_eq_true rfl) (fun x2 l2 u2 hp2 => ?_)
  have hq2 := hp2
  refine zs_if_eq (tgt := 17) (pc := 5) C dX8_plan_5 (by decide) (fun h5 => ?_) (fun h5 => ?_)
  · skip
    refine zs_iconst (pc := 17) C dX8_plan_17 (by decide) ?_
    exact zs_iret (pc := 18) C hr hlk dX8_plan_18 ⟨by repeat (first | exact zsn_rf | assumption | refine zsn_C (by decide) ?_ | refine zsn_I (by decide) ?_ | refine zsn_J ?_ | refine zsn_P ?_ | refine zsn_m (by assumption) (by decide) ?_ | refine zsn_c (by assumption) (by decide) ?_), trivial⟩
  · skip
    refine zs_iload_n (pc := 8) C dX8_plan_8 rfl ?_
    refine zs_if_lt (tgt := 17) (pc := 9) C dX8_plan_9 (by decide) (fun h9 => ?_) (fun h9 => ?_)
    · skip
      refine zs_iconst (pc := 17) C dX8_plan_17 (by decide) ?_
      exact zs_iret (pc := 18) C hr hlk dX8_plan_18 ⟨by repeat (first | exact zsn_rf | assumption | refine zsn_C (by decide) ?_ | refine zsn_I (by decide) ?_ | refine zsn_J ?_ | refine zsn_P ?_ | refine zsn_m (by assumption) (by decide) ?_ | refine zsn_c (by assumption) (by decide) ?_), trivial⟩
    · skip
      refine zs_iload_n (pc := 12) C dX8_plan_12 rfl ?_
      refine zs_iconst (pc := 13) C dX8_plan_13 (by decide) ?_
      refine zs_icmp_le (tgt := 19) (pc := 14) C dX8_plan_14 (by decide) (fun h14 => ?_) (fun h14 => ?_)
      · skip
        refine zs_aload_n (pc := 19) C dX8_plan_19 rfl ?_
        refine zs_getf (pc := 20) C dX8_plan_20 w_X8_49 f_9_7 (by decide) ?_
        refine zs_aload_n (pc := 23) C dX8_plan_23 rfl ?_
        refine zs_getf (pc := 24) C dX8_plan_24 w_X8_34 f_9_4 (by decide) ?_
        refine zs_iload_n (pc := 27) C dX8_plan_27 rfl ?_
        refine zVv2 (pc := 28) C dX8_plan_28 v_X8_248 (c_X2_planFor hX (by omega)) (by decide) (by decide) ⟨Nat.zero_le _, Nat.zero_le _⟩ (Nat.le_of_ble_eq_true rfl) (fun G28 hp28 => ?_)
        obtain ⟨hz28, hq28⟩ := hp28
        refine zs_aload_n (pc := 31) C dX8_plan_31 rfl ?_
        refine zs_getf (pc := 32) C dX8_plan_32 w_X8_49 f_9_7 (by decide) ?_
        refine zs_iload_n (pc := 35) C dX8_plan_35 rfl ?_
        refine zVip1 (pc := 36) C dX8_plan_36 v_X8_252 (c_X2_isThere hX (by omega)) (by decide) (by decide) ⟨Nat.zero_le _, Nat.zero_le _⟩ (Nat.le_of_ble_eq_true rfl) (fun x36 l36 u36 hp36 => ?_)
        have hq36 := hp36
        refine zs_if_ne (tgt := 45) (pc := 39) C dX8_plan_39 (by decide) (fun h39 => ?_) (fun h39 => ?_)
        · skip
          refine zs_iload_n (pc := 45) C dX8_plan_45 rfl ?_
          refine zs_if_ne (tgt := 61) (pc := 46) C dX8_plan_46 (by decide) (fun h46 => ?_) (fun h46 => ?_)
          · skip
            refine zs_aload_n (pc := 61) C dX8_plan_61 rfl ?_
            refine zs_getf (pc := 62) C dX8_plan_62 w_X8_49 f_9_7 (by decide) ?_
            refine zs_getf (pc := 65) C dX8_plan_65 w_X8_256 f_3_3 (by decide) ?_
            refine zs_iload_n (pc := 68) C dX8_plan_68 rfl ?_
            refine zs_iald (r := 2022) (pc := 69) C dX8_plan_69 a_22 (by decide) (by omega) rfl (r_2022 _) (fun v69 e69 l69 u69 => ?_)
            exact zs_iret (pc := 70) C hr hlk dX8_plan_70 ⟨by repeat (first | exact zsn_rf | assumption | refine zsn_C (by decide) ?_ | refine zsn_I (by decide) ?_ | refine zsn_J ?_ | refine zsn_P ?_ | refine zsn_m (by assumption) (by decide) ?_ | refine zsn_c (by assumption) (by decide) ?_), trivial⟩
          · skip
            refine zs_aload_n (pc := 49) C dX8_plan_49 rfl ?_
            refine zs_getf (pc := 50) C dX8_plan_50 w_X8_49 f_9_7 (by decide) ?_
            refine zs_getf (pc := 53) C dX8_plan_53 w_X8_255 f_3_2 (by decide) ?_
            refine zs_iload_n (pc := 56) C dX8_plan_56 rfl ?_
            refine zs_iald (r := 2021) (pc := 57) C dX8_plan_57 a_21 (by decide) (by omega) rfl (r_2021 _) (fun v57 e57 l57 u57 => ?_)
            refine zs_goto (tgt := 70) (pc := 58) C dX8_plan_58 (by decide) ?_
            exact zs_iret (pc := 70) C hr hlk dX8_plan_70 ⟨by repeat (first | exact zsn_rf | assumption | refine zsn_C (by decide) ?_ | refine zsn_I (by decide) ?_ | refine zsn_J ?_ | refine zsn_P ?_ | refine zsn_m (by assumption) (by decide) ?_ | refine zsn_c (by assumption) (by decide) ?_), trivial⟩
        · skip
          refine zs_bipush (pc := 42) C dX8_plan_42 (by decide) (by decide) ?_
          exact zs_iret (pc := 44) C hr hlk dX8_plan_44 ⟨by repeat (first | exact zsn_rf | assumption | refine zsn_C (by decide) ?_ | refine zsn_I (by decide) ?_ | refine zsn_J ?_ | refine zsn_P ?_ | refine zsn_m (by assumption) (by decide) ?_ | refine zsn_c (by assumption) (by decide) ?_), trivial⟩
      · skip
        refine zs_iconst (pc := 17) C dX8_plan_17 (by decide) ?_
        exact zs_iret (pc := 18) C hr hlk dX8_plan_18 ⟨by repeat (first | exact zsn_rf | assumption | refine zsn_C (by decide) ?_ | refine zsn_I (by decide) ?_ | refine zsn_J ?_ | refine zsn_P ?_ | refine zsn_m (by assumption) (by decide) ?_ | refine zsn_c (by assumption) (by decide) ?_), trivial⟩

set_option maxHeartbeats 4000000 in
set_option maxRecDepth 100000 in
theorem c_X8_planned {l : Launch} {Γ : zΓ} {G : zH} {w : Nat} {p0 i0 k : Int} (hX : zXs Γ)  : zMet l Γ yX8_planned cX8_planned 5 (some .int) 19 [zr 9 w, zi p0, zi i0, zi k] G (zpi (fun x G' => zsn [306, 307, 510, 809, 810, 811, 812, 813, 2020, 2021, 2022, 2023, 2024, 2026, 2027, 2028, 2029, 2030, 2031, 2032, 2033, 2034, 2035, 2048, 2049, 2050, 2051, 2052, 2053] G G' ∧ True)) := by
  refine zMet_of RX8 hX (by decide) rfl (Nat.le_of_ble_eq_true rfl) ?_
  intro p e s m args below meth c C hr hlk
  show Z p l e (zrm 19) s m args below meth c Γ 5 0 0 (MQ below (zQc Γ (zpi (fun x G' => zsn [306, 307, 510, 809, 810, 811, 812, 813, 2020, 2021, 2022, 2023, 2024, 2026, 2027, 2028, 2029, 2030, 2031, 2032, 2033, 2034, 2035, 2048, 2049, 2050, 2051, 2052, 2053] G G' ∧ True))) args s 0 0 (zA Γ)) 0 [some (zr 9 w), some (zi p0), some (zi i0), some (zi k), none] [] G
  refine zs_loc 1 rfl (fun ha1 hb1 => ?_)
  refine zs_loc 2 rfl (fun ha2 hb2 => ?_)
  refine zs_loc 3 rfl (fun ha3 hb3 => ?_)
  refine zs_aload_n (pc := 0) C dX8_planned_0 rfl ?_
  refine zs_iload_n (pc := 1) C dX8_planned_1 rfl ?_
  refine zVip1 (pc := 2) C dX8_planned_2 v_X8_245 (c_X8_isOpen hX ) (by decide) (by decide) ⟨Nat.zero_le _, Nat.zero_le _⟩ (Nat.le_of_ble_eq_true rfl) (fun x2 l2 u2 hp2 => ?_)
  have hq2 := hp2
  refine zs_if_eq (tgt := 21) (pc := 5) C dX8_planned_5 (by decide) (fun h5 => ?_) (fun h5 => ?_)
  · skip
    refine zs_iconst (pc := 21) C dX8_planned_21 (by decide) ?_
    exact zs_iret (pc := 22) C hr hlk dX8_planned_22 ⟨by repeat (first | exact zsn_rf | assumption | refine zsn_C (by decide) ?_ | refine zsn_I (by decide) ?_ | refine zsn_J ?_ | refine zsn_P ?_ | refine zsn_m (by assumption) (by decide) ?_ | refine zsn_c (by assumption) (by decide) ?_), trivial⟩
  · skip
    refine zs_iload_n (pc := 8) C dX8_planned_8 rfl ?_
    refine zs_if_lt (tgt := 21) (pc := 9) C dX8_planned_9 (by decide) (fun h9 => ?_) (fun h9 => ?_)
    · skip
      refine zs_iconst (pc := 21) C dX8_planned_21 (by decide) ?_
      exact zs_iret (pc := 22) C hr hlk dX8_planned_22 ⟨by repeat (first | exact zsn_rf | assumption | refine zsn_C (by decide) ?_ | refine zsn_I (by decide) ?_ | refine zsn_J ?_ | refine zsn_P ?_ | refine zsn_m (by assumption) (by decide) ?_ | refine zsn_c (by assumption) (by decide) ?_), trivial⟩
    · skip
      refine zs_iload_n (pc := 12) C dX8_planned_12 rfl ?_
      refine zs_if_lt (tgt := 21) (pc := 13) C dX8_planned_13 (by decide) (fun h13 => ?_) (fun h13 => ?_)
      · skip
        refine zs_iconst (pc := 21) C dX8_planned_21 (by decide) ?_
        exact zs_iret (pc := 22) C hr hlk dX8_planned_22 ⟨by repeat (first | exact zsn_rf | assumption | refine zsn_C (by decide) ?_ | refine zsn_I (by decide) ?_ | refine zsn_J ?_ | refine zsn_P ?_ | refine zsn_m (by assumption) (by decide) ?_ | refine zsn_c (by assumption) (by decide) ?_), trivial⟩
      · skip
        refine zs_iload_n (pc := 16) C dX8_planned_16 rfl ?_
        refine zs_iconst (pc := 17) C dX8_planned_17 (by decide) ?_
        refine zs_icmp_le (tgt := 23) (pc := 18) C dX8_planned_18 (by decide) (fun h18 => ?_) (fun h18 => ?_)
        · skip
          refine zs_aload_n (pc := 23) C dX8_planned_23 rfl ?_
          refine zs_getf (pc := 24) C dX8_planned_24 w_X8_49 f_9_7 (by decide) ?_
          refine zs_aload_n (pc := 27) C dX8_planned_27 rfl ?_
          refine zs_getf (pc := 28) C dX8_planned_28 w_X8_34 f_9_4 (by decide) ?_
          refine zs_iload_n (pc := 31) C dX8_planned_31 rfl ?_
          refine zVv2 (pc := 32) C dX8_planned_32 v_X8_248 (c_X2_planFor hX (by omega)) (by decide) (by decide) ⟨Nat.zero_le _, Nat.zero_le _⟩ (Nat.le_of_ble_eq_true rfl) (fun G32 hp32 => ?_)
          obtain ⟨hz32, hq32⟩ := hp32
          refine zs_aload_n (pc := 35) C dX8_planned_35 rfl ?_
          refine zs_getf (pc := 36) C dX8_planned_36 w_X8_49 f_9_7 (by decide) ?_
          refine zs_iload_n (pc := 39) C dX8_planned_39 rfl ?_
          refine zVip1 (pc := 40) C dX8_planned_40 v_X8_252 (c_X2_isThere hX (by omega)) (by decide) (by decide) ⟨Nat.zero_le _, Nat.zero_le _⟩ (Nat.le_of_ble_eq_true rfl) (fun x40 l40 u40 hp40 => ?_)
          have hq40 := hp40
          refine zs_if_eq (tgt := 59) (pc := 43) C dX8_planned_43 (by decide) (fun h43 => ?_) (fun h43 => ?_)
          · skip
            refine zs_bipush (pc := 59) C dX8_planned_59 (by decide) (by decide) ?_
            exact zs_iret (pc := 61) C hr hlk dX8_planned_61 ⟨by repeat (first | exact zsn_rf | assumption | refine zsn_C (by decide) ?_ | refine zsn_I (by decide) ?_ | refine zsn_J ?_ | refine zsn_P ?_ | refine zsn_m (by assumption) (by decide) ?_ | refine zsn_c (by assumption) (by decide) ?_), trivial⟩
          · skip
            refine zs_iload_n (pc := 46) C dX8_planned_46 rfl ?_
            refine zs_aload_n (pc := 47) C dX8_planned_47 rfl ?_
            refine zs_getf (pc := 48) C dX8_planned_48 w_X8_49 f_9_7 (by decide) ?_
            refine zs_getf (pc := 51) C dX8_planned_51 w_X8_256 f_3_3 (by decide) ?_
            refine zs_iload_n (pc := 54) C dX8_planned_54 rfl ?_
            refine zs_iald (r := 2022) (pc := 55) C dX8_planned_55 a_22 (by decide) (by omega) rfl (r_2022 _) (fun v55 e55 l55 u55 => ?_)
            refine zs_icmp_lt (tgt := 62) (pc := 56) C dX8_planned_56 (by decide) (fun h56 => ?_) (fun h56 => ?_)
            · skip
              refine zs_aload_n (pc := 62) C dX8_planned_62 rfl ?_
              refine zs_getf (pc := 63) C dX8_planned_63 w_X8_49 f_9_7 (by decide) ?_
              refine zs_iload_n (pc := 66) C dX8_planned_66 rfl ?_
              refine zs_iload_n (pc := 67) C dX8_planned_67 rfl ?_
              refine zVip2 (pc := 68) C dX8_planned_68 v_X8_259 (c_X2_stepOf hX (by omega)) (by decide) (by decide) ⟨Nat.zero_le _, Nat.zero_le _⟩ (Nat.le_of_ble_eq_true rfl) (fun x68 l68 u68 hp68 => ?_)
              have hq68 := hp68
              refine zs_istore (pc := 71) C dX8_planned_71 (by decide) ?_
              dsimp only [zset, zclr, znone]
              refine zs_iload_n (pc := 73) C dX8_planned_73 rfl ?_
              refine zs_if_ne (tgt := 84) (pc := 74) C dX8_planned_74 (by decide) (fun h74 => ?_) (fun h74 => ?_)
              · skip
                refine zs_iload (pc := 84) C dX8_planned_84 rfl ?_
                refine zs_iconst (pc := 86) C dX8_planned_86 (by decide) ?_
                first | refine zs_irem (pc := 87) C dX8_planned_87 (by omega) (by omega) (fun hz871 hz872 => ?_) | refine zs_iremF (pc := 87) C dX8_planned_87 (by omega) (fun z87 hz871 hz872 => ?_)
                exact zs_iret (pc := 88) C hr hlk dX8_planned_88 ⟨by repeat (first | exact zsn_rf | assumption | refine zsn_C (by decide) ?_ | refine zsn_I (by decide) ?_ | refine zsn_J ?_ | refine zsn_P ?_ | refine zsn_m (by assumption) (by decide) ?_ | refine zsn_c (by assumption) (by decide) ?_), trivial⟩
              · skip
                refine zs_iload (pc := 77) C dX8_planned_77 rfl ?_
                refine zs_iconst (pc := 79) C dX8_planned_79 (by decide) ?_
                first | refine zs_idiv (pc := 80) C dX8_planned_80 (by omega) (by omega) (fun hz801 hz802 => ?_) | refine zs_idivF (pc := 80) C dX8_planned_80 (by omega) (fun z80 hz801 hz802 => ?_)
                refine zs_goto (tgt := 88) (pc := 81) C dX8_planned_81 (by decide) ?_
                exact zs_iret (pc := 88) C hr hlk dX8_planned_88 ⟨by repeat (first | exact zsn_rf | assumption | refine zsn_C (by decide) ?_ | refine zsn_I (by decide) ?_ | refine zsn_J ?_ | refine zsn_P ?_ | refine zsn_m (by assumption) (by decide) ?_ | refine zsn_c (by assumption) (by decide) ?_), trivial⟩
            · skip
              refine zs_bipush (pc := 59) C dX8_planned_59 (by decide) (by decide) ?_
              exact zs_iret (pc := 61) C hr hlk dX8_planned_61 ⟨by repeat (first | exact zsn_rf | assumption | refine zsn_C (by decide) ?_ | refine zsn_I (by decide) ?_ | refine zsn_J ?_ | refine zsn_P ?_ | refine zsn_m (by assumption) (by decide) ?_ | refine zsn_c (by assumption) (by decide) ?_), trivial⟩
        · skip
          refine zs_iconst (pc := 21) C dX8_planned_21 (by decide) ?_
          exact zs_iret (pc := 22) C hr hlk dX8_planned_22 ⟨by repeat (first | exact zsn_rf | assumption | refine zsn_C (by decide) ?_ | refine zsn_I (by decide) ?_ | refine zsn_J ?_ | refine zsn_P ?_ | refine zsn_m (by assumption) (by decide) ?_ | refine zsn_c (by assumption) (by decide) ?_), trivial⟩

set_option maxHeartbeats 4000000 in
set_option maxRecDepth 100000 in
theorem c_X8_commonDivisor {l : Launch} {Γ : zΓ} {G : zH} {a b : Int} (hX : zXs Γ)  : zMet l Γ yX8_commonDivisor cX8_commonDivisor 6 (some .int) 0 [zi a, zi b] G (zpi (fun x G' => G' = G ∧ True)) := by
  refine zMet_of RX8 hX (by decide) rfl (Nat.le_of_ble_eq_true rfl) ?_
  intro p e s m args below meth c C hr hlk
  show Z p l e (zrm 0) s m args below meth c Γ 6 0 0 (MQ below (zQc Γ (zpi (fun x G' => G' = G ∧ True))) args s 0 0 (zA Γ)) 0 [some (zi a), some (zi b), none, none, none, none] [] G
  refine zs_loc 0 rfl (fun ha0 hb0 => ?_)
  refine zs_loc 1 rfl (fun ha1 hb1 => ?_)
  refine zs_iload_n (pc := 0) C dX8_commonDivisor_0 rfl ?_
  refine zs_istore_n (pc := 1) C dX8_commonDivisor_1 (by decide) ?_
  dsimp only [zset, zclr, znone]
  refine zs_iload_n (pc := 2) C dX8_commonDivisor_2 rfl ?_
  refine zs_istore_n (pc := 3) C dX8_commonDivisor_3 (by decide) ?_
  dsimp only [zset, zclr, znone]
  refine zs_iconst (pc := 4) C dX8_commonDivisor_4 (by decide) ?_
  refine zs_istore (pc := 5) C dX8_commonDivisor_5 (by decide) ?_
  dsimp only [zset, zclr, znone]
  have L7 : ∀ (nn : Nat) (x2 x3 x4 : Int), (0 ≤ x4 ∧ x4 ≤ 64) → (64 - x4).toNat < nn → Z p l e (zrm 0) s m args below meth c Γ 6 0 0 (MQ below (zQc Γ (zpi (fun x G' => G' = G ∧ True))) args s 0 0 (zA Γ)) 7 [some (zi a), some (zi b), some (zi x2), some (zi x3), some (zi x4), none] [] G := by
    intro nn
    induction nn with
    | zero => intro x2 x3 x4 h7_0 hm; exact absurd hm (Nat.not_lt_zero _)
    | succ nn ih7 =>
      intro x2 x3 x4 h7_0 hm7
      refine zs_iload (pc := 7) C dX8_commonDivisor_7 rfl ?_
      refine zs_bipush (pc := 9) C dX8_commonDivisor_9 (by decide) (by decide) ?_
      refine zs_icmp_ge (tgt := 34) (pc := 11) C dX8_commonDivisor_11 (by decide) (fun h11 => ?_) (fun h11 => ?_)
      · skip
        refine zs_iload_n (pc := 34) C dX8_commonDivisor_34 rfl ?_
        exact zs_iret (pc := 35) C hr hlk dX8_commonDivisor_35 ⟨rfl, trivial⟩
      · skip
        refine zs_iload_n (pc := 14) C dX8_commonDivisor_14 rfl ?_
        refine zs_if_le (tgt := 34) (pc := 15) C dX8_commonDivisor_15 (by decide) (fun h15 => ?_) (fun h15 => ?_)
        · skip
          refine zs_iload_n (pc := 34) C dX8_commonDivisor_34 rfl ?_
          exact zs_iret (pc := 35) C hr hlk dX8_commonDivisor_35 ⟨rfl, trivial⟩
        · skip
          refine zs_iload_n (pc := 18) C dX8_commonDivisor_18 rfl ?_
          refine zs_iload_n (pc := 19) C dX8_commonDivisor_19 rfl ?_
          first | refine zs_irem (pc := 20) C dX8_commonDivisor_20 (by omega) (by omega) (fun hz201 hz202 => ?_) | refine zs_iremF (pc := 20) C dX8_commonDivisor_20 (by omega) (fun z20 hz201 hz202 => ?_)
          refine zs_istore (pc := 21) C dX8_commonDivisor_21 (by decide) ?_
          dsimp only [zset, zclr, znone]
          refine zs_iload_n (pc := 23) C dX8_commonDivisor_23 rfl ?_
          refine zs_istore_n (pc := 24) C dX8_commonDivisor_24 (by decide) ?_
          dsimp only [zset, zclr, znone]
          refine zs_iload (pc := 25) C dX8_commonDivisor_25 rfl ?_
          refine zs_istore_n (pc := 27) C dX8_commonDivisor_27 (by decide) ?_
          dsimp only [zset, zclr, znone]
          first | refine zs_iinc (pc := 28) C dX8_commonDivisor_28 rfl (by decide) (by omega) ?_ | refine zs_iincF (pc := 28) C dX8_commonDivisor_28 rfl (by decide) (fun z28 hz281 hz282 => ?_)
          dsimp only [zset, zclr, znone]
          refine zs_goto (tgt := 7) (pc := 31) C dX8_commonDivisor_31 (by decide) ?_
          exact zs_wk (ih7 _ _ _ (by first | omega | (simp only [zuI_1, zuI_2, zuJ_1, zuJ_2, zuJ_3, zuP_1, zuP_2, zuP_3, zuC_1, zuC_2, reduceIte, Nat.reduceEqDiff, false_and, and_false, true_and, and_true, and_self, or_true, true_or, or_false, false_or]; omega)) (by first | omega | (simp only [zuI_1, zuI_2, zuJ_1, zuJ_2, zuJ_3, zuP_1, zuP_2, zuP_3, zuC_1, zuC_2, reduceIte, Nat.reduceEqDiff, false_and, and_false, true_and, and_true, and_self, or_true, true_or, or_false, false_or]; omega))) (zwk_s rfl (zwk_s rfl (zwk_s rfl (zwk_s rfl (zwk_s rfl (zwk_n zwk_0))))))
  exact zs_wk (L7 _ _ _ _ (by first | omega | (simp only [zuI_1, zuI_2, zuJ_1, zuJ_2, zuJ_3, zuP_1, zuP_2, zuP_3, zuC_1, zuC_2, reduceIte, Nat.reduceEqDiff, false_and, and_false, true_and, and_true, and_self, or_true, true_or, or_false, false_or]; omega)) (Nat.lt_succ_self _)) (zwk_s rfl (zwk_s rfl (zwk_s rfl (zwk_s rfl (zwk_s rfl (zwk_n zwk_0))))))

set_option maxHeartbeats 4000000 in
set_option maxRecDepth 100000 in
theorem c_X8_oddsOfLie {l : Launch} {Γ : zΓ} {G : zH} {w : Nat} {a b q k : Int} (hX : zXs Γ) (ha : 0 ≤ a ∧ a < 60) : zMet l Γ yX8_oddsOfLie cX8_oddsOfLie 9 (some .int) 1 [zr 9 w, zi a, zi b, zi q, zi k] G (zpi (fun x G' => G' = G ∧ True)) := by
  refine zMet_of RX8 hX (by decide) rfl (Nat.le_of_ble_eq_true rfl) ?_
  intro p e s m args below meth c C hr hlk
  show Z p l e (zrm 1) s m args below meth c Γ 9 0 0 (MQ below (zQc Γ (zpi (fun x G' => G' = G ∧ True))) args s 0 0 (zA Γ)) 0 [some (zr 9 w), some (zi a), some (zi b), some (zi q), some (zi k), none, none, none, none] [] G
  refine zs_loc 1 rfl (fun ha1 hb1 => ?_)
  refine zs_loc 2 rfl (fun ha2 hb2 => ?_)
  refine zs_loc 3 rfl (fun ha3 hb3 => ?_)
  refine zs_loc 4 rfl (fun ha4 hb4 => ?_)
  refine zs_aload_n (pc := 0) C dX8_oddsOfLie_0 rfl ?_
  refine zs_getd (r := 903) (pc := 1) C dX8_oddsOfLie_1 w_X8_25 f_9_3 (by decide) rfl (fun v1 e1 t1 => ?_)
  refine zs_getf (pc := 4) C dX8_oddsOfLie_4 w_X8_115 f_6_4 (by decide) ?_
  refine zs_aload_n (pc := 7) C dX8_oddsOfLie_7 rfl ?_
  refine zs_getf (pc := 8) C dX8_oddsOfLie_8 w_X8_34 f_9_4 (by decide) ?_
  refine zs_getf (pc := 11) C dX8_oddsOfLie_11 w_X8_172 f_8_1 (by decide) ?_
  refine zs_getf (pc := 14) C dX8_oddsOfLie_14 w_X8_200 f_5_0 (by decide) ?_
  refine zs_iload_n (pc := 17) C dX8_oddsOfLie_17 rfl ?_
  refine zs_iald (r := 2026) (pc := 18) C dX8_oddsOfLie_18 a_26 (by decide) (by omega) rfl (r_2026 _) (fun v18 e18 l18 u18 => ?_)
  refine zs_iald (r := 2039) (pc := 19) C dX8_oddsOfLie_19 a_39 (by decide) (by omega) rfl (r_2039 _) (fun v19 e19 l19 u19 => ?_)
  refine zs_istore (pc := 20) C dX8_oddsOfLie_20 (by decide) ?_
  dsimp only [zset, zclr, znone]
  refine zs_iload_n (pc := 22) C dX8_oddsOfLie_22 rfl ?_
  refine zSip1 (pc := 23) C dX8_oddsOfLie_23 s_X8_273 (c_J6_bitCount_0f7a4 hX ) (by decide) ⟨Nat.zero_le _, Nat.zero_le _⟩ (Nat.le_of_ble_eq_true rfl) (fun x23 l23 u23 hp23 => ?_)
  have hq23 := hp23
  refine zs_bipush (pc := 26) C dX8_oddsOfLie_26 (by decide) (by decide) ?_
  refine zs_iload (pc := 28) C dX8_oddsOfLie_28 rfl ?_
  first | refine zs_isub (pc := 30) C dX8_oddsOfLie_30 (by omega) ?_ | refine zs_isubF (pc := 30) C dX8_oddsOfLie_30 (fun z30 hz301 hz302 => ?_)
  first | refine zs_imul (pc := 31) C dX8_oddsOfLie_31 (by omega) ?_ | refine zs_imulF (pc := 31) C dX8_oddsOfLie_31 (fun z31 hz311 hz312 => ?_)
  refine zs_istore (pc := 32) C dX8_oddsOfLie_32 (by decide) ?_
  dsimp only [zset, zclr, znone]
  refine zs_iload (pc := 34) C dX8_oddsOfLie_34 rfl ?_
  refine zs_iload_n (pc := 36) C dX8_oddsOfLie_36 rfl ?_
  refine zSip1 (pc := 37) C dX8_oddsOfLie_37 s_X8_273 (c_J6_bitCount_0f7a4 hX ) (by decide) ⟨Nat.zero_le _, Nat.zero_le _⟩ (Nat.le_of_ble_eq_true rfl) (fun x37 l37 u37 hp37 => ?_)
  have hq37 := hp37
  refine zs_iload (pc := 40) C dX8_oddsOfLie_40 rfl ?_
  first | refine zs_imul (pc := 42) C dX8_oddsOfLie_42 (by omega) ?_ | refine zs_imulF (pc := 42) C dX8_oddsOfLie_42 (fun z42 hz421 hz422 => ?_)
  first | refine zs_iadd (pc := 43) C dX8_oddsOfLie_43 (by omega) ?_ | refine zs_iaddF (pc := 43) C dX8_oddsOfLie_43 (fun z43 hz431 hz432 => ?_)
  refine zs_istore (pc := 44) C dX8_oddsOfLie_44 (by decide) ?_
  dsimp only [zset, zclr, znone]
  refine zs_iload (pc := 46) C dX8_oddsOfLie_46 rfl ?_
  refine zs_iload (pc := 48) C dX8_oddsOfLie_48 rfl ?_
  refine zSip2 (pc := 50) C dX8_oddsOfLie_50 s_X8_278 (c_X8_commonDivisor hX ) (by decide) ⟨Nat.zero_le _, Nat.zero_le _⟩ (Nat.le_of_ble_eq_true rfl) (fun x50 l50 u50 hp50 => ?_)
  have hq50 := hp50
  refine zs_istore (pc := 53) C dX8_oddsOfLie_53 (by decide) ?_
  dsimp only [zset, zclr, znone]
  refine zs_iload (pc := 55) C dX8_oddsOfLie_55 rfl ?_
  refine zs_if_ne (tgt := 71) (pc := 57) C dX8_oddsOfLie_57 (by decide) (fun h57 => ?_) (fun h57 => ?_)
  · skip
    refine zs_iload (pc := 71) C dX8_oddsOfLie_71 rfl ?_
    refine zs_if_eq (tgt := 81) (pc := 73) C dX8_oddsOfLie_73 (by decide) (fun h73 => ?_) (fun h73 => ?_)
    · skip
      refine zs_iload (pc := 81) C dX8_oddsOfLie_81 rfl ?_
      refine zs_iload (pc := 83) C dX8_oddsOfLie_83 rfl ?_
      first | refine zs_idiv (pc := 85) C dX8_oddsOfLie_85 (by omega) (by omega) (fun hz851 hz852 => ?_) | refine zs_idivF (pc := 85) C dX8_oddsOfLie_85 (by omega) (fun z85 hz851 hz852 => ?_)
      exact zs_iret (pc := 86) C hr hlk dX8_oddsOfLie_86 ⟨rfl, trivial⟩
    · skip
      refine zs_iload (pc := 76) C dX8_oddsOfLie_76 rfl ?_
      refine zs_goto (tgt := 83) (pc := 78) C dX8_oddsOfLie_78 (by decide) ?_
      refine zs_iload (pc := 83) C dX8_oddsOfLie_83 rfl ?_
      first | refine zs_idiv (pc := 85) C dX8_oddsOfLie_85 (by omega) (by omega) (fun hz851 hz852 => ?_) | refine zs_idivF (pc := 85) C dX8_oddsOfLie_85 (by omega) (fun z85 hz851 hz852 => ?_)
      exact zs_iret (pc := 86) C hr hlk dX8_oddsOfLie_86 ⟨rfl, trivial⟩
  · skip
    refine zs_iload (pc := 60) C dX8_oddsOfLie_60 rfl ?_
    refine zs_if_eq (tgt := 69) (pc := 62) C dX8_oddsOfLie_62 (by decide) (fun h62 => ?_) (fun h62 => ?_)
    · skip
      refine zs_iconst (pc := 69) C dX8_oddsOfLie_69 (by decide) ?_
      exact zs_iret (pc := 70) C hr hlk dX8_oddsOfLie_70 ⟨rfl, trivial⟩
    · skip
      refine zs_iconst (pc := 65) C dX8_oddsOfLie_65 (by decide) ?_
      refine zs_goto (tgt := 70) (pc := 66) C dX8_oddsOfLie_66 (by decide) ?_
      exact zs_iret (pc := 70) C hr hlk dX8_oddsOfLie_70 ⟨rfl, trivial⟩

set_option maxHeartbeats 4000000 in
set_option maxRecDepth 100000 in
theorem c_X8_crumb {l : Launch} {Γ : zΓ} {G : zH} {w : Nat} {a k : Int} (hX : zXs Γ)  : zMet l Γ yX8_crumb cX8_crumb 6 (some .int) 4 [zr 9 w, zi a, zi k] G (zpi (fun x G' => zsn [] G G' ∧ True)) := by
  refine zMet_of RX8 hX (by decide) rfl (Nat.le_of_ble_eq_true rfl) ?_
  intro p e s m args below meth c C hr hlk
  show Z p l e (zrm 4) s m args below meth c Γ 6 0 0 (MQ below (zQc Γ (zpi (fun x G' => zsn [] G G' ∧ True))) args s 0 0 (zA Γ)) 0 [some (zr 9 w), some (zi a), some (zi k), none, none, none] [] G
  refine zs_loc 1 rfl (fun ha1 hb1 => ?_)
  refine zs_loc 2 rfl (fun ha2 hb2 => ?_)
  refine zs_aload_n (pc := 0) C dX8_crumb_0 rfl ?_
  refine zs_getf (pc := 1) C dX8_crumb_1 w_X8_34 f_9_4 (by decide) ?_
  refine zs_getf (pc := 4) C dX8_crumb_4 w_X8_172 f_8_1 (by decide) ?_
  refine zs_iload_n (pc := 7) C dX8_crumb_7 rfl ?_
  refine zVip1 (pc := 8) C dX8_crumb_8 v_X8_197 (c_X4_has hX ) (by decide) (by decide) ⟨Nat.zero_le _, Nat.zero_le _⟩ (Nat.le_of_ble_eq_true rfl) (fun x8 l8 u8 hp8 => ?_)
  have hq8 := hp8
  refine zs_if_eq (tgt := 23) (pc := 11) C dX8_crumb_11 (by decide) (fun h11 => ?_) (fun h11 => ?_)
  · skip
    refine zs_iconst (pc := 23) C dX8_crumb_23 (by decide) ?_
    exact zs_iret (pc := 24) C hr hlk dX8_crumb_24 ⟨by repeat (first | exact zsn_rf | assumption | refine zsn_C (by decide) ?_ | refine zsn_I (by decide) ?_ | refine zsn_J ?_ | refine zsn_P ?_ | refine zsn_m (by assumption) (by decide) ?_ | refine zsn_c (by assumption) (by decide) ?_), trivial⟩
  · skip
    refine zs_iload_n (pc := 14) C dX8_crumb_14 rfl ?_
    refine zs_if_lt (tgt := 23) (pc := 15) C dX8_crumb_15 (by decide) (fun h15 => ?_) (fun h15 => ?_)
    · skip
      refine zs_iconst (pc := 23) C dX8_crumb_23 (by decide) ?_
      exact zs_iret (pc := 24) C hr hlk dX8_crumb_24 ⟨by repeat (first | exact zsn_rf | assumption | refine zsn_C (by decide) ?_ | refine zsn_I (by decide) ?_ | refine zsn_J ?_ | refine zsn_P ?_ | refine zsn_m (by assumption) (by decide) ?_ | refine zsn_c (by assumption) (by decide) ?_), trivial⟩
    · skip
      refine zs_iload_n (pc := 18) C dX8_crumb_18 rfl ?_
      refine zs_iconst (pc := 19) C dX8_crumb_19 (by decide) ?_
      refine zs_icmp_le (tgt := 25) (pc := 20) C dX8_crumb_20 (by decide) (fun h20 => ?_) (fun h20 => ?_)
      · skip
        refine zs_iconst (pc := 25) C dX8_crumb_25 (by decide) ?_
        refine zs_istore_n (pc := 26) C dX8_crumb_26 (by decide) ?_
        dsimp only [zset, zclr, znone]
        refine zs_iconst (pc := 27) C dX8_crumb_27 (by decide) ?_
        refine zs_istore (pc := 28) C dX8_crumb_28 (by decide) ?_
        dsimp only [zset, zclr, znone]
        refine zs_iconst (pc := 30) C dX8_crumb_30 (by decide) ?_
        refine zs_istore (pc := 31) C dX8_crumb_31 (by decide) ?_
        dsimp only [zset, zclr, znone]
        have L33 : ∀ (nn : Nat) (x3 x4 x5 : Int) (G1 : zH), (0 ≤ x5 ∧ x5 ≤ 4) → (zsn [] G G1) → (4 - x5).toNat < nn → Z p l e (zrm 4) s m args below meth c Γ 6 0 0 (MQ below (zQc Γ (zpi (fun x G' => zsn [] G G' ∧ True))) args s 0 0 (zA Γ)) 33 [some (zr 9 w), some (zi a), some (zi k), some (zi x3), some (zi x4), some (zi x5)] [] G1 := by
          intro nn
          induction nn with
          | zero => intro x3 x4 x5 G1 h33_0 h33_1 hm; exact absurd hm (Nat.not_lt_zero _)
          | succ nn ih33 =>
            intro x3 x4 x5 G1 h33_0 h33_1 hm33
            refine zs_iload (pc := 33) C dX8_crumb_33 rfl ?_
            refine zs_aload_n (pc := 35) C dX8_crumb_35 rfl ?_
            refine zs_getd (r := 903) (pc := 36) C dX8_crumb_36 w_X8_25 f_9_3 (by decide) rfl (fun v36 e36 t36 => ?_)
            refine zs_getf (pc := 39) C dX8_crumb_39 w_X8_262 f_6_2 (by decide) ?_
            refine zs_iconst (pc := 42) C dX8_crumb_42 (by decide) ?_
            refine zs_iald (r := 2037) (pc := 43) C dX8_crumb_43 a_37 (by decide) (by omega) rfl rfl (fun v43 e43 l43 u43 => ?_)
            have hsz := rs_2037 (0 : Int).toNat
            refine zs_icmp_ge (tgt := 117) (pc := 44) C dX8_crumb_44 (by decide) (fun h44 => ?_) (fun h44 => ?_)
            · skip
              refine zs_iload_n (pc := 117) C dX8_crumb_117 rfl ?_
              refine zs_name (fun y118 ey118 => ?_)
              rcases (show y118 = 0 ∨ y118 = 1 ∨ (y118 ≠ 0 ∧ y118 ≠ 1) by omega) with h118 | h118 | h118
              · skip
                refine zs_look (tgt := 144) (pc := 118) C dX8_crumb_118 (by decide) (by first | (rw [h118]; done) | (rw [h118]; rfl)) (by decide) ?_
                refine zs_iload_n (pc := 144) C dX8_crumb_144 rfl ?_
                exact zs_iret (pc := 145) C hr hlk dX8_crumb_145 ⟨by repeat (first | exact zsn_rf | assumption | refine zsn_C (by decide) ?_ | refine zsn_I (by decide) ?_ | refine zsn_J ?_ | refine zsn_P ?_ | refine zsn_m (by assumption) (by decide) ?_ | refine zsn_c (by assumption) (by decide) ?_), trivial⟩
              · skip
                refine zs_look (tgt := 146) (pc := 118) C dX8_crumb_118 (by decide) (by first | (rw [h118]; done) | (rw [h118]; rfl)) (by decide) ?_
                refine zs_iload (pc := 146) C dX8_crumb_146 rfl ?_
                exact zs_iret (pc := 148) C hr hlk dX8_crumb_148 ⟨by repeat (first | exact zsn_rf | assumption | refine zsn_C (by decide) ?_ | refine zsn_I (by decide) ?_ | refine zsn_J ?_ | refine zsn_P ?_ | refine zsn_m (by assumption) (by decide) ?_ | refine zsn_c (by assumption) (by decide) ?_), trivial⟩
              · skip
                refine zs_look (off := 31) (tgt := 149) (pc := 118) C dX8_crumb_118 (by decide) (by have h9 := h118; simp [Op.lookupswitch.offset]; omega) (by decide) ?_
                refine zs_aload_n (pc := 149) C dX8_crumb_149 rfl ?_
                refine zs_iload_n (pc := 150) C dX8_crumb_150 rfl ?_
                refine zs_iload_n (pc := 151) C dX8_crumb_151 rfl ?_
                refine zs_iload (pc := 152) C dX8_crumb_152 rfl ?_
                refine zs_iload_n (pc := 154) C dX8_crumb_154 rfl ?_
                refine zs_iconst (pc := 155) C dX8_crumb_155 (by decide) ?_
                refine zs_icmp_ne (tgt := 163) (pc := 156) C dX8_crumb_156 (by decide) (fun h156 => ?_) (fun h156 => ?_)
                · skip
                  refine zs_iconst (pc := 163) C dX8_crumb_163 (by decide) ?_
                  refine zVip4 (pc := 164) C dX8_crumb_164 v_X8_269 (c_X8_oddsOfLie hX (by omega)) (by decide) (by decide) ⟨Nat.zero_le _, Nat.zero_le _⟩ (Nat.le_of_ble_eq_true rfl) (fun x164 l164 u164 hp164 => ?_)
                  have hq164 := hp164
                  exact zs_iret (pc := 167) C hr hlk dX8_crumb_167 ⟨by repeat (first | exact zsn_rf | assumption | refine zsn_C (by decide) ?_ | refine zsn_I (by decide) ?_ | refine zsn_J ?_ | refine zsn_P ?_ | refine zsn_m (by assumption) (by decide) ?_ | refine zsn_c (by assumption) (by decide) ?_), trivial⟩
                · skip
                  refine zs_iconst (pc := 159) C dX8_crumb_159 (by decide) ?_
                  refine zs_goto (tgt := 164) (pc := 160) C dX8_crumb_160 (by decide) ?_
                  refine zVip4 (pc := 164) C dX8_crumb_164 v_X8_269 (c_X8_oddsOfLie hX (by omega)) (by decide) (by decide) ⟨Nat.zero_le _, Nat.zero_le _⟩ (Nat.le_of_ble_eq_true rfl) (fun x164 l164 u164 hp164 => ?_)
                  have hq164 := hp164
                  exact zs_iret (pc := 167) C hr hlk dX8_crumb_167 ⟨by repeat (first | exact zsn_rf | assumption | refine zsn_C (by decide) ?_ | refine zsn_I (by decide) ?_ | refine zsn_J ?_ | refine zsn_P ?_ | refine zsn_m (by assumption) (by decide) ?_ | refine zsn_c (by assumption) (by decide) ?_), trivial⟩
            · skip
              refine zs_aload_n (pc := 47) C dX8_crumb_47 rfl ?_
              refine zs_getf (pc := 48) C dX8_crumb_48 w_X8_34 f_9_4 (by decide) ?_
              refine zs_iload_n (pc := 51) C dX8_crumb_51 rfl ?_
              refine zs_iconst (pc := 52) C dX8_crumb_52 (by decide) ?_
              refine zs_iload (pc := 53) C dX8_crumb_53 rfl ?_
              refine zVi3 (pc := 55) C dX8_crumb_55 v_X8_265 (c_X7_fineThen hX (by omega) (by omega)) (by decide) (by decide) ⟨Nat.zero_le _, Nat.zero_le _⟩ (Nat.le_of_ble_eq_true rfl) (fun x55 G55 l55 u55 hp55 => ?_)
              obtain ⟨hz55, hq55⟩ := hp55
              refine zs_aload_n (pc := 58) C dX8_crumb_58 rfl ?_
              refine zs_getf (pc := 59) C dX8_crumb_59 w_X8_34 f_9_4 (by decide) ?_
              refine zs_getf (pc := 62) C dX8_crumb_62 w_X8_172 f_8_1 (by decide) ?_
              refine zs_getf (pc := 65) C dX8_crumb_65 w_X8_206 f_5_2 (by decide) ?_
              refine zs_iload_n (pc := 68) C dX8_crumb_68 rfl ?_
              refine zs_iald (r := 2028) (pc := 69) C dX8_crumb_69 a_28 (by decide) (by omega) rfl (r_2028 _) (fun v69 e69 l69 u69 => ?_)
              refine zs_icmp_eq (tgt := 76) (pc := 70) C dX8_crumb_70 (by decide) (fun h70 => ?_) (fun h70 => ?_)
              · skip
                refine zs_aload_n (pc := 76) C dX8_crumb_76 rfl ?_
                refine zs_getf (pc := 77) C dX8_crumb_77 w_X8_34 f_9_4 (by decide) ?_
                refine zs_getf (pc := 80) C dX8_crumb_80 w_X8_172 f_8_1 (by decide) ?_
                refine zs_iload_n (pc := 83) C dX8_crumb_83 rfl ?_
                refine zs_iload (pc := 84) C dX8_crumb_84 rfl ?_
                refine zVip2 (pc := 86) C dX8_crumb_86 v_X8_212 (c_X4_lieBy hX (by omega)) (by decide) (by decide) ⟨Nat.zero_le _, Nat.zero_le _⟩ (Nat.le_of_ble_eq_true rfl) (fun x86 l86 u86 hp86 => ?_)
                have hq86 := hp86
                refine zs_if_ne (tgt := 102) (pc := 89) C dX8_crumb_89 (by decide) (fun h89 => ?_) (fun h89 => ?_)
                · skip
                  refine zs_iload (pc := 102) C dX8_crumb_102 rfl ?_
                  refine zs_iconst (pc := 104) C dX8_crumb_104 (by decide) ?_
                  refine zs_iload (pc := 105) C dX8_crumb_105 rfl ?_
                  refine zs_ishlF (pc := 107) C dX8_crumb_107 (fun z107 hz1071 hz1072 => ?_)
                  refine zs_iorF (pc := 108) C dX8_crumb_108 (fun z108 hz1081 hz1082 => ?_)
                  refine zs_istore (pc := 109) C dX8_crumb_109 (by decide) ?_
                  dsimp only [zset, zclr, znone]
                  first | refine zs_iinc (pc := 111) C dX8_crumb_111 rfl (by decide) (by omega) ?_ | refine zs_iincF (pc := 111) C dX8_crumb_111 rfl (by decide) (fun z111 hz1111 hz1112 => ?_)
                  dsimp only [zset, zclr, znone]
                  refine zs_goto (tgt := 33) (pc := 114) C dX8_crumb_114 (by decide) ?_
                  exact zs_wk (ih33 _ _ _ _ (by first | omega | (simp only [zuI_1, zuI_2, zuJ_1, zuJ_2, zuJ_3, zuP_1, zuP_2, zuP_3, zuC_1, zuC_2, reduceIte, Nat.reduceEqDiff, false_and, and_false, true_and, and_true, and_self, or_true, true_or, or_false, false_or]; omega)) (by repeat (first | exact zsn_rf | assumption | refine zsn_C (by decide) ?_ | refine zsn_I (by decide) ?_ | refine zsn_J ?_ | refine zsn_P ?_ | refine zsn_m (by assumption) (by decide) ?_ | refine zsn_c (by assumption) (by decide) ?_)) (by first | omega | (simp only [zuI_1, zuI_2, zuJ_1, zuJ_2, zuJ_3, zuP_1, zuP_2, zuP_3, zuC_1, zuC_2, reduceIte, Nat.reduceEqDiff, false_and, and_false, true_and, and_true, and_self, or_true, true_or, or_false, false_or]; omega))) (zwk_s rfl (zwk_s rfl (zwk_s rfl (zwk_s rfl (zwk_s rfl (zwk_s rfl zwk_0))))))
                · skip
                  refine zs_iload_n (pc := 92) C dX8_crumb_92 rfl ?_
                  refine zs_iconst (pc := 93) C dX8_crumb_93 (by decide) ?_
                  refine zs_iload (pc := 94) C dX8_crumb_94 rfl ?_
                  refine zs_ishlF (pc := 96) C dX8_crumb_96 (fun z96 hz961 hz962 => ?_)
                  refine zs_iorF (pc := 97) C dX8_crumb_97 (fun z97 hz971 hz972 => ?_)
                  refine zs_istore_n (pc := 98) C dX8_crumb_98 (by decide) ?_
                  dsimp only [zset, zclr, znone]
                  refine zs_goto (tgt := 111) (pc := 99) C dX8_crumb_99 (by decide) ?_
                  first | refine zs_iinc (pc := 111) C dX8_crumb_111 rfl (by decide) (by omega) ?_ | refine zs_iincF (pc := 111) C dX8_crumb_111 rfl (by decide) (fun z111 hz1111 hz1112 => ?_)
                  dsimp only [zset, zclr, znone]
                  refine zs_goto (tgt := 33) (pc := 114) C dX8_crumb_114 (by decide) ?_
                  exact zs_wk (ih33 _ _ _ _ (by first | omega | (simp only [zuI_1, zuI_2, zuJ_1, zuJ_2, zuJ_3, zuP_1, zuP_2, zuP_3, zuC_1, zuC_2, reduceIte, Nat.reduceEqDiff, false_and, and_false, true_and, and_true, and_self, or_true, true_or, or_false, false_or]; omega)) (by repeat (first | exact zsn_rf | assumption | refine zsn_C (by decide) ?_ | refine zsn_I (by decide) ?_ | refine zsn_J ?_ | refine zsn_P ?_ | refine zsn_m (by assumption) (by decide) ?_ | refine zsn_c (by assumption) (by decide) ?_)) (by first | omega | (simp only [zuI_1, zuI_2, zuJ_1, zuJ_2, zuJ_3, zuP_1, zuP_2, zuP_3, zuC_1, zuC_2, reduceIte, Nat.reduceEqDiff, false_and, and_false, true_and, and_true, and_self, or_true, true_or, or_false, false_or]; omega))) (zwk_s rfl (zwk_s rfl (zwk_s rfl (zwk_s rfl (zwk_s rfl (zwk_s rfl zwk_0))))))
              · skip
                refine zs_goto (tgt := 111) (pc := 73) C dX8_crumb_73 (by decide) ?_
                first | refine zs_iinc (pc := 111) C dX8_crumb_111 rfl (by decide) (by omega) ?_ | refine zs_iincF (pc := 111) C dX8_crumb_111 rfl (by decide) (fun z111 hz1111 hz1112 => ?_)
                dsimp only [zset, zclr, znone]
                refine zs_goto (tgt := 33) (pc := 114) C dX8_crumb_114 (by decide) ?_
                exact zs_wk (ih33 _ _ _ _ (by first | omega | (simp only [zuI_1, zuI_2, zuJ_1, zuJ_2, zuJ_3, zuP_1, zuP_2, zuP_3, zuC_1, zuC_2, reduceIte, Nat.reduceEqDiff, false_and, and_false, true_and, and_true, and_self, or_true, true_or, or_false, false_or]; omega)) (by repeat (first | exact zsn_rf | assumption | refine zsn_C (by decide) ?_ | refine zsn_I (by decide) ?_ | refine zsn_J ?_ | refine zsn_P ?_ | refine zsn_m (by assumption) (by decide) ?_ | refine zsn_c (by assumption) (by decide) ?_)) (by first | omega | (simp only [zuI_1, zuI_2, zuJ_1, zuJ_2, zuJ_3, zuP_1, zuP_2, zuP_3, zuC_1, zuC_2, reduceIte, Nat.reduceEqDiff, false_and, and_false, true_and, and_true, and_self, or_true, true_or, or_false, false_or]; omega))) (zwk_s rfl (zwk_s rfl (zwk_s rfl (zwk_s rfl (zwk_s rfl (zwk_s rfl zwk_0))))))
        exact zs_wk (L33 _ _ _ _ _ (by first | omega | (simp only [zuI_1, zuI_2, zuJ_1, zuJ_2, zuJ_3, zuP_1, zuP_2, zuP_3, zuC_1, zuC_2, reduceIte, Nat.reduceEqDiff, false_and, and_false, true_and, and_true, and_self, or_true, true_or, or_false, false_or]; omega)) (by repeat (first | exact zsn_rf | assumption | refine zsn_C (by decide) ?_ | refine zsn_I (by decide) ?_ | refine zsn_J ?_ | refine zsn_P ?_ | refine zsn_m (by assumption) (by decide) ?_ | refine zsn_c (by assumption) (by decide) ?_)) (Nat.lt_succ_self _)) (zwk_s rfl (zwk_s rfl (zwk_s rfl (zwk_s rfl (zwk_s rfl (zwk_s rfl zwk_0))))))
      · skip
        refine zs_iconst (pc := 23) C dX8_crumb_23 (by decide) ?_
        exact zs_iret (pc := 24) C hr hlk dX8_crumb_24 ⟨by repeat (first | exact zsn_rf | assumption | refine zsn_C (by decide) ?_ | refine zsn_I (by decide) ?_ | refine zsn_J ?_ | refine zsn_P ?_ | refine zsn_m (by assumption) (by decide) ?_ | refine zsn_c (by assumption) (by decide) ?_), trivial⟩

set_option maxHeartbeats 4000000 in
set_option maxRecDepth 100000 in
theorem c_X8_flourOfRun {l : Launch} {Γ : zΓ} {G : zH} {w : Nat} {k i0 a b : Int} (hX : zXs Γ)  : zMet l Γ yX8_flourOfRun cX8_flourOfRun 6 (some .int) 5 [zr 9 w, zi k, zi i0, zi a, zi b] G (zpi (fun x G' => zsn [510, 2026, 2027, 2028, 2029, 2030, 2031, 2032, 2033, 2034, 2035, 2048, 2049, 2050, 2051, 2052, 2053, 809, 810, 811, 812, 813] G G' ∧ True)) := by
  refine zMet_of RX8 hX (by decide) rfl (Nat.le_of_ble_eq_true rfl) ?_
  intro p e s m args below meth c C hr hlk
  show Z p l e (zrm 5) s m args below meth c Γ 6 0 0 (MQ below (zQc Γ (zpi (fun x G' => zsn [510, 2026, 2027, 2028, 2029, 2030, 2031, 2032, 2033, 2034, 2035, 2048, 2049, 2050, 2051, 2052, 2053, 809, 810, 811, 812, 813] G G' ∧ True))) args s 0 0 (zA Γ)) 0 [some (zr 9 w), some (zi k), some (zi i0), some (zi a), some (zi b), none] [] G
  refine zs_loc 1 rfl (fun ha1 hb1 => ?_)
  refine zs_loc 2 rfl (fun ha2 hb2 => ?_)
  refine zs_loc 3 rfl (fun ha3 hb3 => ?_)
  refine zs_loc 4 rfl (fun ha4 hb4 => ?_)
  refine zs_aload_n (pc := 0) C dX8_flourOfRun_0 rfl ?_
  refine zs_getf (pc := 1) C dX8_flourOfRun_1 w_X8_41 f_9_6 (by decide) ?_
  refine zs_aload_n (pc := 4) C dX8_flourOfRun_4 rfl ?_
  refine zs_getf (pc := 5) C dX8_flourOfRun_5 w_X8_34 f_9_4 (by decide) ?_
  refine zVv1 (pc := 8) C dX8_flourOfRun_8 v_X8_288 (c_X7_copyFrom hX ) (by decide) (by decide) ⟨Nat.zero_le _, Nat.zero_le _⟩ (Nat.le_of_ble_eq_true rfl) (fun G8 hp8 => ?_)
  obtain ⟨hz8, hq8⟩ := hp8
  refine zs_iconst (pc := 11) C dX8_flourOfRun_11 (by decide) ?_
  refine zs_istore (pc := 12) C dX8_flourOfRun_12 (by decide) ?_
  dsimp only [zset, zclr, znone]
  have L14 : ∀ (nn : Nat) (x5 : Int) (G1 : zH), (0 ≤ x5) → (zsn [510, 2026, 2027, 2028, 2029, 2030, 2031, 2032, 2033, 2034, 2035, 2048, 2049, 2050, 2051, 2052, 2053, 809, 810, 811, 812, 813] G G1) → (a - x5).toNat < nn → Z p l e (zrm 5) s m args below meth c Γ 6 0 0 (MQ below (zQc Γ (zpi (fun x G' => zsn [510, 2026, 2027, 2028, 2029, 2030, 2031, 2032, 2033, 2034, 2035, 2048, 2049, 2050, 2051, 2052, 2053, 809, 810, 811, 812, 813] G G' ∧ True))) args s 0 0 (zA Γ)) 14 [some (zr 9 w), some (zi k), some (zi i0), some (zi a), some (zi b), some (zi x5)] [] G1 := by
    intro nn
    induction nn with
    | zero => intro x5 G1 h14_0 h14_1 hm; exact absurd hm (Nat.not_lt_zero _)
    | succ nn ih14 =>
      intro x5 G1 h14_0 h14_1 hm14
      refine zs_iload (pc := 14) C dX8_flourOfRun_14 rfl ?_
      refine zs_iload_n (pc := 16) C dX8_flourOfRun_16 rfl ?_
      refine zs_icmp_ge (tgt := 48) (pc := 17) C dX8_flourOfRun_17 (by decide) (fun h17 => ?_) (fun h17 => ?_)
      · skip
        refine zs_aload_n (pc := 48) C dX8_flourOfRun_48 rfl ?_
        refine zs_getf (pc := 49) C dX8_flourOfRun_49 w_X8_41 f_9_6 (by decide) ?_
        refine zs_getf (pc := 52) C dX8_flourOfRun_52 w_X8_172 f_8_1 (by decide) ?_
        refine zs_iload (pc := 55) C dX8_flourOfRun_55 rfl ?_
        refine zVip1 (pc := 57) C dX8_flourOfRun_57 v_X8_218 (c_X4_flourFrom hX ) (by decide) (by decide) ⟨Nat.zero_le _, Nat.zero_le _⟩ (Nat.le_of_ble_eq_true rfl) (fun x57 l57 u57 hp57 => ?_)
        have hq57 := hp57
        exact zs_iret (pc := 60) C hr hlk dX8_flourOfRun_60 ⟨by repeat (first | exact zsn_rf | assumption | refine zsn_C (by decide) ?_ | refine zsn_I (by decide) ?_ | refine zsn_J ?_ | refine zsn_P ?_ | refine zsn_m (by assumption) (by decide) ?_ | refine zsn_c (by assumption) (by decide) ?_), trivial⟩
      · skip
        refine zs_aload_n (pc := 20) C dX8_flourOfRun_20 rfl ?_
        refine zs_getf (pc := 21) C dX8_flourOfRun_21 w_X8_41 f_9_6 (by decide) ?_
        refine zs_iload_n (pc := 24) C dX8_flourOfRun_24 rfl ?_
        refine zs_iload_n (pc := 25) C dX8_flourOfRun_25 rfl ?_
        refine zVv2 (pc := 26) C dX8_flourOfRun_26 v_X8_239 (c_X7_confessOfDay hX ) (by decide) (by decide) ⟨Nat.zero_le _, Nat.zero_le _⟩ (Nat.le_of_ble_eq_true rfl) (fun G26 hp26 => ?_)
        obtain ⟨hz26, hq26⟩ := hp26
        refine zs_aload_n (pc := 29) C dX8_flourOfRun_29 rfl ?_
        refine zs_getf (pc := 30) C dX8_flourOfRun_30 w_X8_41 f_9_6 (by decide) ?_
        refine zs_dupa (pc := 33) C dX8_flourOfRun_33 ?_
        refine zs_geti (r := 809) (pc := 34) C dX8_flourOfRun_34 w_X8_221 f_8_9 rfl (r_809 0) (fun v34 e34 l34 u34 => ?_)
        refine zs_iconst (pc := 37) C dX8_flourOfRun_37 (by decide) ?_
        first | refine zs_iadd (pc := 38) C dX8_flourOfRun_38 (by omega) ?_ | refine zs_iaddF (pc := 38) C dX8_flourOfRun_38 (fun z38 hz381 hz382 => ?_)
        refine zs_puti (r := 809) (pc := 39) C dX8_flourOfRun_39 w_X8_221 f_8_9 rfl (r_809 0) (by omega) ?_
        first | refine zs_iinc (pc := 42) C dX8_flourOfRun_42 rfl (by decide) (by omega) ?_ | refine zs_iincF (pc := 42) C dX8_flourOfRun_42 rfl (by decide) (fun z42 hz421 hz422 => ?_)
        dsimp only [zset, zclr, znone]
        refine zs_goto (tgt := 14) (pc := 45) C dX8_flourOfRun_45 (by decide) ?_
        exact zs_wk (ih14 _ _ (by first | omega | (simp only [zuI_1, zuI_2, zuJ_1, zuJ_2, zuJ_3, zuP_1, zuP_2, zuP_3, zuC_1, zuC_2, reduceIte, Nat.reduceEqDiff, false_and, and_false, true_and, and_true, and_self, or_true, true_or, or_false, false_or]; omega)) (by repeat (first | exact zsn_rf | assumption | refine zsn_C (by decide) ?_ | refine zsn_I (by decide) ?_ | refine zsn_J ?_ | refine zsn_P ?_ | refine zsn_m (by assumption) (by decide) ?_ | refine zsn_c (by assumption) (by decide) ?_)) (by first | omega | (simp only [zuI_1, zuI_2, zuJ_1, zuJ_2, zuJ_3, zuP_1, zuP_2, zuP_3, zuC_1, zuC_2, reduceIte, Nat.reduceEqDiff, false_and, and_false, true_and, and_true, and_self, or_true, true_or, or_false, false_or]; omega))) (zwk_s rfl (zwk_s rfl (zwk_s rfl (zwk_s rfl (zwk_s rfl (zwk_s rfl zwk_0))))))
  exact zs_wk (L14 _ _ _ (by first | omega | (simp only [zuI_1, zuI_2, zuJ_1, zuJ_2, zuJ_3, zuP_1, zuP_2, zuP_3, zuC_1, zuC_2, reduceIte, Nat.reduceEqDiff, false_and, and_false, true_and, and_true, and_self, or_true, true_or, or_false, false_or]; omega)) (by repeat (first | exact zsn_rf | assumption | refine zsn_C (by decide) ?_ | refine zsn_I (by decide) ?_ | refine zsn_J ?_ | refine zsn_P ?_ | refine zsn_m (by assumption) (by decide) ?_ | refine zsn_c (by assumption) (by decide) ?_)) (Nat.lt_succ_self _)) (zwk_s rfl (zwk_s rfl (zwk_s rfl (zwk_s rfl (zwk_s rfl (zwk_s rfl zwk_0))))))

set_option maxHeartbeats 4000000 in
set_option maxRecDepth 100000 in
theorem c_X8_run {l : Launch} {Γ : zΓ} {G : zH} {w : Nat} {a b : Int} (hX : zXs Γ)  : zMet l Γ yX8_run cX8_run 3 (some .int) 6 [zr 9 w, zi a, zi b] G (zpi (fun x G' => zsn [510, 2026, 2027, 2028, 2029, 2030, 2031, 2032, 2033, 2034, 2035, 2048, 2049, 2050, 2051, 2052, 2053, 809, 810, 811, 812, 813] G G' ∧ True)) := by
  refine zMet_of RX8 hX (by decide) rfl (Nat.le_of_ble_eq_true rfl) ?_
  intro p e s m args below meth c C hr hlk
  show Z p l e (zrm 6) s m args below meth c Γ 3 0 0 (MQ below (zQc Γ (zpi (fun x G' => zsn [510, 2026, 2027, 2028, 2029, 2030, 2031, 2032, 2033, 2034, 2035, 2048, 2049, 2050, 2051, 2052, 2053, 809, 810, 811, 812, 813] G G' ∧ True))) args s 0 0 (zA Γ)) 0 [some (zr 9 w), some (zi a), some (zi b)] [] G
  refine zs_loc 1 rfl (fun ha1 hb1 => ?_)
  refine zs_loc 2 rfl (fun ha2 hb2 => ?_)
  refine zs_aload_n (pc := 0) C dX8_run_0 rfl ?_
  refine zs_iload_n (pc := 1) C dX8_run_1 rfl ?_
  refine zVip1 (pc := 2) C dX8_run_2 v_X8_236 (c_X8_areDays hX ) (by decide) (by decide) ⟨Nat.zero_le _, Nat.zero_le _⟩ (Nat.le_of_ble_eq_true rfl) (fun x2 l2 u2 hp2 => ?_)
  have hq2 := hp2
  refine zs_if_eq (tgt := 26) (pc := 5) C dX8_run_5 (by decide) (fun h5 => ?_) (fun h5 => ?_)
  · skip
    refine zs_iconst (pc := 26) C dX8_run_26 (by decide) ?_
    exact zs_iret (pc := 27) C hr hlk dX8_run_27 ⟨by repeat (first | exact zsn_rf | assumption | refine zsn_C (by decide) ?_ | refine zsn_I (by decide) ?_ | refine zsn_J ?_ | refine zsn_P ?_ | refine zsn_m (by assumption) (by decide) ?_ | refine zsn_c (by assumption) (by decide) ?_), trivial⟩
  · skip
    refine zs_iload_n (pc := 8) C dX8_run_8 rfl ?_
    refine zSip1 (pc := 9) C dX8_run_9 s_X8_215 (c_X8_isFine hX ) (by decide) ⟨Nat.zero_le _, Nat.zero_le _⟩ (Nat.le_of_ble_eq_true rfl) (fun x9 l9 u9 hp9 => ?_)
    have hq9 := hp9
    refine zs_if_eq (tgt := 26) (pc := 12) C dX8_run_12 (by decide) (fun h12 => ?_) (fun h12 => ?_)
    · skip
      refine zs_iconst (pc := 26) C dX8_run_26 (by decide) ?_
      exact zs_iret (pc := 27) C hr hlk dX8_run_27 ⟨by repeat (first | exact zsn_rf | assumption | refine zsn_C (by decide) ?_ | refine zsn_I (by decide) ?_ | refine zsn_J ?_ | refine zsn_P ?_ | refine zsn_m (by assumption) (by decide) ?_ | refine zsn_c (by assumption) (by decide) ?_), trivial⟩
    · skip
      refine zs_aload_n (pc := 15) C dX8_run_15 rfl ?_
      refine zs_iconst (pc := 16) C dX8_run_16 (by decide) ?_
      refine zs_iconst (pc := 17) C dX8_run_17 (by decide) ?_
      refine zs_iload_n (pc := 18) C dX8_run_18 rfl ?_
      refine zs_iload_n (pc := 19) C dX8_run_19 rfl ?_
      refine zVi4 (pc := 20) C dX8_run_20 v_X8_281 (c_X8_flourOfRun hX ) (by decide) (by decide) ⟨Nat.zero_le _, Nat.zero_le _⟩ (Nat.le_of_ble_eq_true rfl) (fun x20 G20 l20 u20 hp20 => ?_)
      obtain ⟨hz20, hq20⟩ := hp20
      refine zs_goto (tgt := 27) (pc := 23) C dX8_run_23 (by decide) ?_
      exact zs_iret (pc := 27) C hr hlk dX8_run_27 ⟨by repeat (first | exact zsn_rf | assumption | refine zsn_C (by decide) ?_ | refine zsn_I (by decide) ?_ | refine zsn_J ?_ | refine zsn_P ?_ | refine zsn_m (by assumption) (by decide) ?_ | refine zsn_c (by assumption) (by decide) ?_), trivial⟩

set_option maxHeartbeats 4000000 in
set_option maxRecDepth 100000 in
theorem c_X8_isTrial {l : Launch} {Γ : zΓ} {G : zH} {w : Nat} {k i0 : Int} (hX : zXs Γ)  : zMet l Γ yX8_isTrial cX8_isTrial 3 (some .boolean) 1 [zr 9 w, zi k, zi i0] G (zpi (fun x G' => G' = G ∧ (x = 0 ∨ x = 1))) := by
  refine zMet_of RX8 hX (by decide) rfl (Nat.le_of_ble_eq_true rfl) ?_
  intro p e s m args below meth c C hr hlk
  show Z p l e (zrm 1) s m args below meth c Γ 3 0 0 (MQ below (zQc Γ (zpi (fun x G' => G' = G ∧ (x = 0 ∨ x = 1)))) args s 0 0 (zA Γ)) 0 [some (zr 9 w), some (zi k), some (zi i0)] [] G
  refine zs_loc 1 rfl (fun ha1 hb1 => ?_)
  refine zs_loc 2 rfl (fun ha2 hb2 => ?_)
  refine zs_iload_n (pc := 0) C dX8_isTrial_0 rfl ?_
  refine zs_name (fun y1 ey1 => ?_)
  rcases (show y1 = 0 ∨ y1 = 1 ∨ y1 = 2 ∨ y1 = 3 ∨ y1 = 4 ∨ (y1 < 0 ∨ 4 < y1) by omega) with h1 | h1 | h1 | h1 | h1 | h1
  · skip
    refine zs_tabIn (pc := 1) (tgt := 36) C 0 dX8_isTrial_1 h1 (by decide) rfl (by decide) ?_
    refine zs_iload_n (pc := 36) C dX8_isTrial_36 rfl ?_
    refine zs_if_ne (tgt := 44) (pc := 37) C dX8_isTrial_37 (by decide) (fun h37 => ?_) (fun h37 => ?_)
    · skip
      refine zs_iconst (pc := 44) C dX8_isTrial_44 (by decide) ?_
      exact zs_zret (pc := 45) C hr hlk dX8_isTrial_45 (by omega) ⟨rfl, by first | omega | (simp only [zuI_1, zuI_2, zuJ_1, zuJ_2, zuJ_3, zuP_1, zuP_2, zuP_3, zuC_1, zuC_2, reduceIte, Nat.reduceEqDiff, false_and, and_false, true_and, and_true, and_self, or_true, true_or, or_false, false_or]; omega)⟩
    · skip
      refine zs_iconst (pc := 40) C dX8_isTrial_40 (by decide) ?_
      refine zs_goto (tgt := 45) (pc := 41) C dX8_isTrial_41 (by decide) ?_
      exact zs_zret (pc := 45) C hr hlk dX8_isTrial_45 (by omega) ⟨rfl, by first | omega | (simp only [zuI_1, zuI_2, zuJ_1, zuJ_2, zuJ_3, zuP_1, zuP_2, zuP_3, zuC_1, zuC_2, reduceIte, Nat.reduceEqDiff, false_and, and_false, true_and, and_true, and_self, or_true, true_or, or_false, false_or]; omega)⟩
  · skip
    refine zs_tabIn (pc := 1) (tgt := 46) C 1 dX8_isTrial_1 h1 (by decide) rfl (by decide) ?_
    refine zs_aload_n (pc := 46) C dX8_isTrial_46 rfl ?_
    refine zs_getd (r := 903) (pc := 47) C dX8_isTrial_47 w_X8_25 f_9_3 (by decide) rfl (fun v47 e47 t47 => ?_)
    refine zs_iconst (pc := 50) C dX8_isTrial_50 (by decide) ?_
    refine zs_iload_n (pc := 51) C dX8_isTrial_51 rfl ?_
    refine zVip2 (pc := 52) C dX8_isTrial_52 v_X8_104 (c_X5_has hX (by omega)) (by decide) (by decide) ⟨Nat.zero_le _, Nat.zero_le _⟩ (Nat.le_of_ble_eq_true rfl) (fun x52 l52 u52 hp52 => ?_)
    have hq52 := hp52
    exact zs_zret (pc := 55) C hr hlk dX8_isTrial_55 (by omega) ⟨rfl, by first | omega | (simp only [zuI_1, zuI_2, zuJ_1, zuJ_2, zuJ_3, zuP_1, zuP_2, zuP_3, zuC_1, zuC_2, reduceIte, Nat.reduceEqDiff, false_and, and_false, true_and, and_true, and_self, or_true, true_or, or_false, false_or]; omega)⟩
  · skip
    refine zs_tabIn (pc := 1) (tgt := 56) C 2 dX8_isTrial_1 h1 (by decide) rfl (by decide) ?_
    refine zs_aload_n (pc := 56) C dX8_isTrial_56 rfl ?_
    refine zs_getd (r := 903) (pc := 57) C dX8_isTrial_57 w_X8_25 f_9_3 (by decide) rfl (fun v57 e57 t57 => ?_)
    refine zs_iconst (pc := 60) C dX8_isTrial_60 (by decide) ?_
    refine zs_iload_n (pc := 61) C dX8_isTrial_61 rfl ?_
    refine zVip2 (pc := 62) C dX8_isTrial_62 v_X8_104 (c_X5_has hX (by omega)) (by decide) (by decide) ⟨Nat.zero_le _, Nat.zero_le _⟩ (Nat.le_of_ble_eq_true rfl) (fun x62 l62 u62 hp62 => ?_)
    have hq62 := hp62
    exact zs_zret (pc := 65) C hr hlk dX8_isTrial_65 (by omega) ⟨rfl, by first | omega | (simp only [zuI_1, zuI_2, zuJ_1, zuJ_2, zuJ_3, zuP_1, zuP_2, zuP_3, zuC_1, zuC_2, reduceIte, Nat.reduceEqDiff, false_and, and_false, true_and, and_true, and_self, or_true, true_or, or_false, false_or]; omega)⟩
  · skip
    refine zs_tabIn (pc := 1) (tgt := 36) C 3 dX8_isTrial_1 h1 (by decide) rfl (by decide) ?_
    refine zs_iload_n (pc := 36) C dX8_isTrial_36 rfl ?_
    refine zs_if_ne (tgt := 44) (pc := 37) C dX8_isTrial_37 (by decide) (fun h37 => ?_) (fun h37 => ?_)
    · skip
      refine zs_iconst (pc := 44) C dX8_isTrial_44 (by decide) ?_
      exact zs_zret (pc := 45) C hr hlk dX8_isTrial_45 (by omega) ⟨rfl, by first | omega | (simp only [zuI_1, zuI_2, zuJ_1, zuJ_2, zuJ_3, zuP_1, zuP_2, zuP_3, zuC_1, zuC_2, reduceIte, Nat.reduceEqDiff, false_and, and_false, true_and, and_true, and_self, or_true, true_or, or_false, false_or]; omega)⟩
    · skip
      refine zs_iconst (pc := 40) C dX8_isTrial_40 (by decide) ?_
      refine zs_goto (tgt := 45) (pc := 41) C dX8_isTrial_41 (by decide) ?_
      exact zs_zret (pc := 45) C hr hlk dX8_isTrial_45 (by omega) ⟨rfl, by first | omega | (simp only [zuI_1, zuI_2, zuJ_1, zuJ_2, zuJ_3, zuP_1, zuP_2, zuP_3, zuC_1, zuC_2, reduceIte, Nat.reduceEqDiff, false_and, and_false, true_and, and_true, and_self, or_true, true_or, or_false, false_or]; omega)⟩
  · skip
    refine zs_tabIn (pc := 1) (tgt := 36) C 4 dX8_isTrial_1 h1 (by decide) rfl (by decide) ?_
    refine zs_iload_n (pc := 36) C dX8_isTrial_36 rfl ?_
    refine zs_if_ne (tgt := 44) (pc := 37) C dX8_isTrial_37 (by decide) (fun h37 => ?_) (fun h37 => ?_)
    · skip
      refine zs_iconst (pc := 44) C dX8_isTrial_44 (by decide) ?_
      exact zs_zret (pc := 45) C hr hlk dX8_isTrial_45 (by omega) ⟨rfl, by first | omega | (simp only [zuI_1, zuI_2, zuJ_1, zuJ_2, zuJ_3, zuP_1, zuP_2, zuP_3, zuC_1, zuC_2, reduceIte, Nat.reduceEqDiff, false_and, and_false, true_and, and_true, and_self, or_true, true_or, or_false, false_or]; omega)⟩
    · skip
      refine zs_iconst (pc := 40) C dX8_isTrial_40 (by decide) ?_
      refine zs_goto (tgt := 45) (pc := 41) C dX8_isTrial_41 (by decide) ?_
      exact zs_zret (pc := 45) C hr hlk dX8_isTrial_45 (by omega) ⟨rfl, by first | omega | (simp only [zuI_1, zuI_2, zuJ_1, zuJ_2, zuJ_3, zuP_1, zuP_2, zuP_3, zuC_1, zuC_2, reduceIte, Nat.reduceEqDiff, false_and, and_false, true_and, and_true, and_self, or_true, true_or, or_false, false_or]; omega)⟩
  · skip
    refine zs_tabOut (tgt := 66) (pc := 1) C dX8_isTrial_1 h1 (by decide) ?_
    refine zs_iconst (pc := 66) C dX8_isTrial_66 (by decide) ?_
    exact zs_zret (pc := 67) C hr hlk dX8_isTrial_67 (by omega) ⟨rfl, by first | omega | (simp only [zuI_1, zuI_2, zuJ_1, zuJ_2, zuJ_3, zuP_1, zuP_2, zuP_3, zuC_1, zuC_2, reduceIte, Nat.reduceEqDiff, false_and, and_false, true_and, and_true, and_self, or_true, true_or, or_false, false_or]; omega)⟩

set_option maxHeartbeats 4000000 in
set_option maxRecDepth 100000 in
theorem c_X8_tried {l : Launch} {Γ : zΓ} {G : zH} {w : Nat} {k i0 a b : Int} (hX : zXs Γ)  : zMet l Γ yX8_tried cX8_tried 5 (some .int) 6 [zr 9 w, zi k, zi i0, zi a, zi b] G (zpi (fun x G' => zsn [510, 2026, 2027, 2028, 2029, 2030, 2031, 2032, 2033, 2034, 2035, 2048, 2049, 2050, 2051, 2052, 2053, 809, 810, 811, 812, 813] G G' ∧ True)) := by
  refine zMet_of RX8 hX (by decide) rfl (Nat.le_of_ble_eq_true rfl) ?_
  intro p e s m args below meth c C hr hlk
  show Z p l e (zrm 6) s m args below meth c Γ 5 0 0 (MQ below (zQc Γ (zpi (fun x G' => zsn [510, 2026, 2027, 2028, 2029, 2030, 2031, 2032, 2033, 2034, 2035, 2048, 2049, 2050, 2051, 2052, 2053, 809, 810, 811, 812, 813] G G' ∧ True))) args s 0 0 (zA Γ)) 0 [some (zr 9 w), some (zi k), some (zi i0), some (zi a), some (zi b)] [] G
  refine zs_loc 1 rfl (fun ha1 hb1 => ?_)
  refine zs_loc 2 rfl (fun ha2 hb2 => ?_)
  refine zs_loc 3 rfl (fun ha3 hb3 => ?_)
  refine zs_loc 4 rfl (fun ha4 hb4 => ?_)
  refine zs_aload_n (pc := 0) C dX8_tried_0 rfl ?_
  refine zs_iload_n (pc := 1) C dX8_tried_1 rfl ?_
  refine zVip1 (pc := 2) C dX8_tried_2 v_X8_236 (c_X8_areDays hX ) (by decide) (by decide) ⟨Nat.zero_le _, Nat.zero_le _⟩ (Nat.le_of_ble_eq_true rfl) (fun x2 l2 u2 hp2 => ?_)
  have hq2 := hp2
  refine zs_if_eq (tgt := 25) (pc := 5) C dX8_tried_5 (by decide) (fun h5 => ?_) (fun h5 => ?_)
  · skip
    refine zs_iconst (pc := 25) C dX8_tried_25 (by decide) ?_
    exact zs_iret (pc := 26) C hr hlk dX8_tried_26 ⟨by repeat (first | exact zsn_rf | assumption | refine zsn_C (by decide) ?_ | refine zsn_I (by decide) ?_ | refine zsn_J ?_ | refine zsn_P ?_ | refine zsn_m (by assumption) (by decide) ?_ | refine zsn_c (by assumption) (by decide) ?_), trivial⟩
  · skip
    refine zs_iload (pc := 8) C dX8_tried_8 rfl ?_
    refine zSip1 (pc := 10) C dX8_tried_10 s_X8_215 (c_X8_isFine hX ) (by decide) ⟨Nat.zero_le _, Nat.zero_le _⟩ (Nat.le_of_ble_eq_true rfl) (fun x10 l10 u10 hp10 => ?_)
    have hq10 := hp10
    refine zs_if_eq (tgt := 25) (pc := 13) C dX8_tried_13 (by decide) (fun h13 => ?_) (fun h13 => ?_)
    · skip
      refine zs_iconst (pc := 25) C dX8_tried_25 (by decide) ?_
      exact zs_iret (pc := 26) C hr hlk dX8_tried_26 ⟨by repeat (first | exact zsn_rf | assumption | refine zsn_C (by decide) ?_ | refine zsn_I (by decide) ?_ | refine zsn_J ?_ | refine zsn_P ?_ | refine zsn_m (by assumption) (by decide) ?_ | refine zsn_c (by assumption) (by decide) ?_), trivial⟩
    · skip
      refine zs_aload_n (pc := 16) C dX8_tried_16 rfl ?_
      refine zs_iload_n (pc := 17) C dX8_tried_17 rfl ?_
      refine zs_iload_n (pc := 18) C dX8_tried_18 rfl ?_
      refine zVip2 (pc := 19) C dX8_tried_19 v_X8_285 (c_X8_isTrial hX ) (by decide) (by decide) ⟨Nat.zero_le _, Nat.zero_le _⟩ (Nat.le_of_ble_eq_true rfl) (fun x19 l19 u19 hp19 => ?_)
      have hq19 := hp19
      refine zs_if_ne (tgt := 27) (pc := 22) C dX8_tried_22 (by decide) (fun h22 => ?_) (fun h22 => ?_)
      · skip
        refine zs_aload_n (pc := 27) C dX8_tried_27 rfl ?_
        refine zs_iload_n (pc := 28) C dX8_tried_28 rfl ?_
        refine zs_iload_n (pc := 29) C dX8_tried_29 rfl ?_
        refine zs_iload_n (pc := 30) C dX8_tried_30 rfl ?_
        refine zs_iload (pc := 31) C dX8_tried_31 rfl ?_
        refine zVi4 (pc := 33) C dX8_tried_33 v_X8_281 (c_X8_flourOfRun hX ) (by decide) (by decide) ⟨Nat.zero_le _, Nat.zero_le _⟩ (Nat.le_of_ble_eq_true rfl) (fun x33 G33 l33 u33 hp33 => ?_)
        obtain ⟨hz33, hq33⟩ := hp33
        exact zs_iret (pc := 36) C hr hlk dX8_tried_36 ⟨by repeat (first | exact zsn_rf | assumption | refine zsn_C (by decide) ?_ | refine zsn_I (by decide) ?_ | refine zsn_J ?_ | refine zsn_P ?_ | refine zsn_m (by assumption) (by decide) ?_ | refine zsn_c (by assumption) (by decide) ?_), trivial⟩
      · skip
        refine zs_iconst (pc := 25) C dX8_tried_25 (by decide) ?_
        exact zs_iret (pc := 26) C hr hlk dX8_tried_26 ⟨by repeat (first | exact zsn_rf | assumption | refine zsn_C (by decide) ?_ | refine zsn_I (by decide) ?_ | refine zsn_J ?_ | refine zsn_P ?_ | refine zsn_m (by assumption) (by decide) ?_ | refine zsn_c (by assumption) (by decide) ?_), trivial⟩

set_option maxHeartbeats 4000000 in
set_option maxRecDepth 100000 in
theorem c_X8_isRow {l : Launch} {Γ : zΓ} {G : zH} {w : Nat} {a b : Int} (hX : zXs Γ) (ha : 1 ≤ a ∧ a ≤ 10) : zMet l Γ yX8_isRow cX8_isRow 4 (some .boolean) 1 [zr 9 w, zi a, zi b] G (zpi (fun x G' => G' = G ∧ (x = 0 ∨ x = 1))) := by
  refine zMet_of RX8 hX (by decide) rfl (Nat.le_of_ble_eq_true rfl) ?_
  intro p e s m args below meth c C hr hlk
  show Z p l e (zrm 1) s m args below meth c Γ 4 0 0 (MQ below (zQc Γ (zpi (fun x G' => G' = G ∧ (x = 0 ∨ x = 1)))) args s 0 0 (zA Γ)) 0 [some (zr 9 w), some (zi a), some (zi b), none] [] G
  refine zs_loc 1 rfl (fun ha1 hb1 => ?_)
  refine zs_loc 2 rfl (fun ha2 hb2 => ?_)
  refine zs_iconst (pc := 0) C dX8_isRow_0 (by decide) ?_
  refine zs_istore_n (pc := 1) C dX8_isRow_1 (by decide) ?_
  dsimp only [zset, zclr, znone]
  have L2 : ∀ (nn : Nat) (x3 : Int), (0 ≤ x3 ∧ x3 ≤ 10) → (10 - x3).toNat < nn → Z p l e (zrm 1) s m args below meth c Γ 4 0 0 (MQ below (zQc Γ (zpi (fun x G' => G' = G ∧ (x = 0 ∨ x = 1)))) args s 0 0 (zA Γ)) 2 [some (zr 9 w), some (zi a), some (zi b), some (zi x3)] [] G := by
    intro nn
    induction nn with
    | zero => intro x3 h2_0 hm; exact absurd hm (Nat.not_lt_zero _)
    | succ nn ih2 =>
      intro x3 h2_0 hm2
      refine zs_iload_n (pc := 2) C dX8_isRow_2 rfl ?_
      refine zs_iload_n (pc := 3) C dX8_isRow_3 rfl ?_
      refine zs_icmp_ge (tgt := 33) (pc := 4) C dX8_isRow_4 (by decide) (fun h4 => ?_) (fun h4 => ?_)
      · skip
        refine zs_iconst (pc := 33) C dX8_isRow_33 (by decide) ?_
        exact zs_zret (pc := 34) C hr hlk dX8_isRow_34 (by omega) ⟨rfl, by first | omega | (simp only [zuI_1, zuI_2, zuJ_1, zuJ_2, zuJ_3, zuP_1, zuP_2, zuP_3, zuC_1, zuC_2, reduceIte, Nat.reduceEqDiff, false_and, and_false, true_and, and_true, and_self, or_true, true_or, or_false, false_or]; omega)⟩
      · skip
        refine zs_aload_n (pc := 7) C dX8_isRow_7 rfl ?_
        refine zs_getd (r := 903) (pc := 8) C dX8_isRow_8 w_X8_25 f_9_3 (by decide) rfl (fun v8 e8 t8 => ?_)
        refine zs_iconst (pc := 11) C dX8_isRow_11 (by decide) ?_
        refine zs_iload_n (pc := 12) C dX8_isRow_12 rfl ?_
        refine zs_iconst (pc := 13) C dX8_isRow_13 (by decide) ?_
        refine zs_iload_n (pc := 14) C dX8_isRow_14 rfl ?_
        first | refine zs_imul (pc := 15) C dX8_isRow_15 (by omega) ?_ | refine zs_imulF (pc := 15) C dX8_isRow_15 (fun z15 hz151 hz152 => ?_)
        refine zs_ishrF (pc := 16) C dX8_isRow_16 (fun z16 hz161 hz162 => ?_)
        refine zs_iconst (pc := 17) C dX8_isRow_17 (by decide) ?_
        first | refine zs_iand (pc := 18) C 1 dX8_isRow_18 (by decide) (by decide) (fun z18 hz181 hz182 => ?_) | refine zs_iand (pc := 18) C 2 dX8_isRow_18 (by decide) (by decide) (fun z18 hz181 hz182 => ?_) | refine zs_iand (pc := 18) C 8 dX8_isRow_18 (by decide) (by decide) (fun z18 hz181 hz182 => ?_) | refine zs_iandF (pc := 18) C dX8_isRow_18 (fun z18 hz181 hz182 => ?_)
        refine zVip2 (pc := 19) C dX8_isRow_19 v_X8_104 (c_X5_has hX (by omega)) (by decide) (by decide) ⟨Nat.zero_le _, Nat.zero_le _⟩ (Nat.le_of_ble_eq_true rfl) (fun x19 l19 u19 hp19 => ?_)
        have hq19 := hp19
        refine zs_if_ne (tgt := 27) (pc := 22) C dX8_isRow_22 (by decide) (fun h22 => ?_) (fun h22 => ?_)
        · skip
          first | refine zs_iinc (pc := 27) C dX8_isRow_27 rfl (by decide) (by omega) ?_ | refine zs_iincF (pc := 27) C dX8_isRow_27 rfl (by decide) (fun z27 hz271 hz272 => ?_)
          dsimp only [zset, zclr, znone]
          refine zs_goto (tgt := 2) (pc := 30) C dX8_isRow_30 (by decide) ?_
          exact zs_wk (ih2 _ (by first | omega | (simp only [zuI_1, zuI_2, zuJ_1, zuJ_2, zuJ_3, zuP_1, zuP_2, zuP_3, zuC_1, zuC_2, reduceIte, Nat.reduceEqDiff, false_and, and_false, true_and, and_true, and_self, or_true, true_or, or_false, false_or]; omega)) (by first | omega | (simp only [zuI_1, zuI_2, zuJ_1, zuJ_2, zuJ_3, zuP_1, zuP_2, zuP_3, zuC_1, zuC_2, reduceIte, Nat.reduceEqDiff, false_and, and_false, true_and, and_true, and_self, or_true, true_or, or_false, false_or]; omega))) (zwk_s rfl (zwk_s rfl (zwk_s rfl (zwk_s rfl zwk_0))))
        · skip
          refine zs_iconst (pc := 25) C dX8_isRow_25 (by decide) ?_
          exact zs_zret (pc := 26) C hr hlk dX8_isRow_26 (by omega) ⟨rfl, by first | omega | (simp only [zuI_1, zuI_2, zuJ_1, zuJ_2, zuJ_3, zuP_1, zuP_2, zuP_3, zuC_1, zuC_2, reduceIte, Nat.reduceEqDiff, false_and, and_false, true_and, and_true, and_self, or_true, true_or, or_false, false_or]; omega)⟩
  exact zs_wk (L2 _ _ (by first | omega | (simp only [zuI_1, zuI_2, zuJ_1, zuJ_2, zuJ_3, zuP_1, zuP_2, zuP_3, zuC_1, zuC_2, reduceIte, Nat.reduceEqDiff, false_and, and_false, true_and, and_true, and_self, or_true, true_or, or_false, false_or]; omega)) (Nat.lt_succ_self _)) (zwk_s rfl (zwk_s rfl (zwk_s rfl (zwk_s rfl zwk_0))))

set_option maxHeartbeats 4000000 in
set_option maxRecDepth 100000 in
theorem c_X8_greaterSum {l : Launch} {Γ : zΓ} {G : zH} {w : Nat} {a b q : Int} (hX : zXs Γ) (ha : 1 ≤ a ∧ a ≤ 10) : zMet l Γ yX8_greaterSum cX8_greaterSum 8 (some .int) 1 [zr 9 w, zi a, zi b, zi q] G (zpi (fun x G' => G' = G ∧ True)) := by
  refine zMet_of RX8 hX (by decide) rfl (Nat.le_of_ble_eq_true rfl) ?_
  intro p e s m args below meth c C hr hlk
  show Z p l e (zrm 1) s m args below meth c Γ 8 0 0 (MQ below (zQc Γ (zpi (fun x G' => G' = G ∧ True))) args s 0 0 (zA Γ)) 0 [some (zr 9 w), some (zi a), some (zi b), some (zi q), none, none, none, none] [] G
  refine zs_loc 1 rfl (fun ha1 hb1 => ?_)
  refine zs_loc 2 rfl (fun ha2 hb2 => ?_)
  refine zs_loc 3 rfl (fun ha3 hb3 => ?_)
  refine zs_iconst (pc := 0) C dX8_greaterSum_0 (by decide) ?_
  refine zs_istore (pc := 1) C dX8_greaterSum_1 (by decide) ?_
  dsimp only [zset, zclr, znone]
  refine zs_iconst (pc := 3) C dX8_greaterSum_3 (by decide) ?_
  refine zs_istore (pc := 4) C dX8_greaterSum_4 (by decide) ?_
  dsimp only [zset, zclr, znone]
  refine zs_iconst (pc := 6) C dX8_greaterSum_6 (by decide) ?_
  refine zs_istore (pc := 7) C dX8_greaterSum_7 (by decide) ?_
  dsimp only [zset, zclr, znone]
  have L9 : ∀ (nn : Nat) (x4 x5 x6 : Int), (0 ≤ x6 ∧ x6 ≤ 10) → (10 - x6).toNat < nn → Z p l e (zrm 1) s m args below meth c Γ 8 0 0 (MQ below (zQc Γ (zpi (fun x G' => G' = G ∧ True))) args s 0 0 (zA Γ)) 9 [some (zr 9 w), some (zi a), some (zi b), some (zi q), some (zi x4), some (zi x5), some (zi x6), none] [] G := by
    intro nn
    induction nn with
    | zero => intro x4 x5 x6 h9_0 hm; exact absurd hm (Nat.not_lt_zero _)
    | succ nn ih9 =>
      intro x4 x5 x6 h9_0 hm9
      refine zs_iload (pc := 9) C dX8_greaterSum_9 rfl ?_
      refine zs_iload_n (pc := 11) C dX8_greaterSum_11 rfl ?_
      refine zs_icmp_ge (tgt := 65) (pc := 12) C dX8_greaterSum_12 (by decide) (fun h12 => ?_) (fun h12 => ?_)
      · skip
        refine zs_iload (pc := 65) C dX8_greaterSum_65 rfl ?_
        refine zs_iload (pc := 67) C dX8_greaterSum_67 rfl ?_
        refine zs_maxI (pc := 69) C dX8_greaterSum_69 s_X8_301 (by decide) (Nat.le_of_ble_eq_true rfl) ⟨Nat.zero_le _, Nat.zero_le _⟩ (fun z69 hz69 => ?_)
        exact zs_iret (pc := 72) C hr hlk dX8_greaterSum_72 ⟨rfl, trivial⟩
      · skip
        refine zs_aload_n (pc := 15) C dX8_greaterSum_15 rfl ?_
        refine zs_getd (r := 903) (pc := 16) C dX8_greaterSum_16 w_X8_25 f_9_3 (by decide) rfl (fun v16 e16 t16 => ?_)
        refine zs_getf (pc := 19) C dX8_greaterSum_19 w_X8_298 f_6_3 (by decide) ?_
        refine zs_iload_n (pc := 22) C dX8_greaterSum_22 rfl ?_
        refine zs_iconst (pc := 23) C dX8_greaterSum_23 (by decide) ?_
        refine zs_iload (pc := 24) C dX8_greaterSum_24 rfl ?_
        first | refine zs_imul (pc := 26) C dX8_greaterSum_26 (by omega) ?_ | refine zs_imulF (pc := 26) C dX8_greaterSum_26 (fun z26 hz261 hz262 => ?_)
        refine zs_ishrF (pc := 27) C dX8_greaterSum_27 (fun z27 hz271 hz272 => ?_)
        refine zs_iconst (pc := 28) C dX8_greaterSum_28 (by decide) ?_
        first | refine zs_iand (pc := 29) C 1 dX8_greaterSum_29 (by decide) (by decide) (fun z29 hz291 hz292 => ?_) | refine zs_iand (pc := 29) C 2 dX8_greaterSum_29 (by decide) (by decide) (fun z29 hz291 hz292 => ?_) | refine zs_iand (pc := 29) C 8 dX8_greaterSum_29 (by decide) (by decide) (fun z29 hz291 hz292 => ?_) | refine zs_iandF (pc := 29) C dX8_greaterSum_29 (fun z29 hz291 hz292 => ?_)
        refine zs_iald (r := 2038) (pc := 30) C dX8_greaterSum_30 a_38 (by decide) (by omega) rfl (r_2038 _) (fun v30 e30 l30 u30 => ?_)
        refine zs_istore (pc := 31) C dX8_greaterSum_31 (by decide) ?_
        dsimp only [zset, zclr, znone]
        refine zs_iload_n (pc := 33) C dX8_greaterSum_33 rfl ?_
        refine zs_iload (pc := 34) C dX8_greaterSum_34 rfl ?_
        refine zs_ishrF (pc := 36) C dX8_greaterSum_36 (fun z36 hz361 hz362 => ?_)
        refine zs_iconst (pc := 37) C dX8_greaterSum_37 (by decide) ?_
        first | refine zs_iand (pc := 38) C 1 dX8_greaterSum_38 (by decide) (by decide) (fun z38 hz381 hz382 => ?_) | refine zs_iand (pc := 38) C 2 dX8_greaterSum_38 (by decide) (by decide) (fun z38 hz381 hz382 => ?_) | refine zs_iand (pc := 38) C 8 dX8_greaterSum_38 (by decide) (by decide) (fun z38 hz381 hz382 => ?_) | refine zs_iandF (pc := 38) C dX8_greaterSum_38 (fun z38 hz381 hz382 => ?_)
        refine zs_if_ne (tgt := 52) (pc := 39) C dX8_greaterSum_39 (by decide) (fun h39 => ?_) (fun h39 => ?_)
        · skip
          refine zs_iload (pc := 52) C dX8_greaterSum_52 rfl ?_
          refine zs_iload (pc := 54) C dX8_greaterSum_54 rfl ?_
          first | refine zs_iadd (pc := 56) C dX8_greaterSum_56 (by omega) ?_ | refine zs_iaddF (pc := 56) C dX8_greaterSum_56 (fun z56 hz561 hz562 => ?_)
          refine zs_istore (pc := 57) C dX8_greaterSum_57 (by decide) ?_
          dsimp only [zset, zclr, znone]
          first | refine zs_iinc (pc := 59) C dX8_greaterSum_59 rfl (by decide) (by omega) ?_ | refine zs_iincF (pc := 59) C dX8_greaterSum_59 rfl (by decide) (fun z59 hz591 hz592 => ?_)
          dsimp only [zset, zclr, znone]
          refine zs_goto (tgt := 9) (pc := 62) C dX8_greaterSum_62 (by decide) ?_
          exact zs_wk (ih9 _ _ _ (by first | omega | (simp only [zuI_1, zuI_2, zuJ_1, zuJ_2, zuJ_3, zuP_1, zuP_2, zuP_3, zuC_1, zuC_2, reduceIte, Nat.reduceEqDiff, false_and, and_false, true_and, and_true, and_self, or_true, true_or, or_false, false_or]; omega)) (by first | omega | (simp only [zuI_1, zuI_2, zuJ_1, zuJ_2, zuJ_3, zuP_1, zuP_2, zuP_3, zuC_1, zuC_2, reduceIte, Nat.reduceEqDiff, false_and, and_false, true_and, and_true, and_self, or_true, true_or, or_false, false_or]; omega))) (zwk_s rfl (zwk_s rfl (zwk_s rfl (zwk_s rfl (zwk_s rfl (zwk_s rfl (zwk_s rfl (zwk_n zwk_0))))))))
        · skip
          refine zs_iload (pc := 42) C dX8_greaterSum_42 rfl ?_
          refine zs_iload (pc := 44) C dX8_greaterSum_44 rfl ?_
          first | refine zs_iadd (pc := 46) C dX8_greaterSum_46 (by omega) ?_ | refine zs_iaddF (pc := 46) C dX8_greaterSum_46 (fun z46 hz461 hz462 => ?_)
          refine zs_istore (pc := 47) C dX8_greaterSum_47 (by decide) ?_
          dsimp only [zset, zclr, znone]
          refine zs_goto (tgt := 59) (pc := 49) C dX8_greaterSum_49 (by decide) ?_
          first | refine zs_iinc (pc := 59) C dX8_greaterSum_59 rfl (by decide) (by omega) ?_ | refine zs_iincF (pc := 59) C dX8_greaterSum_59 rfl (by decide) (fun z59 hz591 hz592 => ?_)
          dsimp only [zset, zclr, znone]
          refine zs_goto (tgt := 9) (pc := 62) C dX8_greaterSum_62 (by decide) ?_
          exact zs_wk (ih9 _ _ _ (by first | omega | (simp only [zuI_1, zuI_2, zuJ_1, zuJ_2, zuJ_3, zuP_1, zuP_2, zuP_3, zuC_1, zuC_2, reduceIte, Nat.reduceEqDiff, false_and, and_false, true_and, and_true, and_self, or_true, true_or, or_false, false_or]; omega)) (by first | omega | (simp only [zuI_1, zuI_2, zuJ_1, zuJ_2, zuJ_3, zuP_1, zuP_2, zuP_3, zuC_1, zuC_2, reduceIte, Nat.reduceEqDiff, false_and, and_false, true_and, and_true, and_self, or_true, true_or, or_false, false_or]; omega))) (zwk_s rfl (zwk_s rfl (zwk_s rfl (zwk_s rfl (zwk_s rfl (zwk_s rfl (zwk_s rfl (zwk_n zwk_0))))))))
  exact zs_wk (L9 _ _ _ _ (by first | omega | (simp only [zuI_1, zuI_2, zuJ_1, zuJ_2, zuJ_3, zuP_1, zuP_2, zuP_3, zuC_1, zuC_2, reduceIte, Nat.reduceEqDiff, false_and, and_false, true_and, and_true, and_self, or_true, true_or, or_false, false_or]; omega)) (Nat.lt_succ_self _)) (zwk_s rfl (zwk_s rfl (zwk_s rfl (zwk_s rfl (zwk_s rfl (zwk_s rfl (zwk_s rfl (zwk_n zwk_0))))))))

set_option maxHeartbeats 4000000 in
set_option maxRecDepth 100000 in
theorem c_X8_mills {l : Launch} {Γ : zΓ} {G : zH} {w : Nat} {a b k : Int} (hX : zXs Γ)  : zMet l Γ yX8_mills cX8_mills 8 (some .int) 2 [zr 9 w, zi a, zi b, zi k] G (zpi (fun x G' => G' = G ∧ True)) := by
  refine zMet_of RX8 hX (by decide) rfl (Nat.le_of_ble_eq_true rfl) ?_
  intro p e s m args below meth c C hr hlk
  show Z p l e (zrm 2) s m args below meth c Γ 8 0 0 (MQ below (zQc Γ (zpi (fun x G' => G' = G ∧ True))) args s 0 0 (zA Γ)) 0 [some (zr 9 w), some (zi a), some (zi b), some (zi k), none, none, none, none] [] G
  refine zs_loc 1 rfl (fun ha1 hb1 => ?_)
  refine zs_loc 2 rfl (fun ha2 hb2 => ?_)
  refine zs_loc 3 rfl (fun ha3 hb3 => ?_)
  refine zs_iload_n (pc := 0) C dX8_mills_0 rfl ?_
  refine zs_iconst (pc := 1) C dX8_mills_1 (by decide) ?_
  refine zs_icmp_lt (tgt := 29) (pc := 2) C dX8_mills_2 (by decide) (fun h2 => ?_) (fun h2 => ?_)
  · skip
    refine zs_iconst (pc := 29) C dX8_mills_29 (by decide) ?_
    exact zs_iret (pc := 30) C hr hlk dX8_mills_30 ⟨rfl, trivial⟩
  · skip
    refine zs_iload_n (pc := 5) C dX8_mills_5 rfl ?_
    refine zs_bipush (pc := 6) C dX8_mills_6 (by decide) (by decide) ?_
    refine zs_icmp_gt (tgt := 29) (pc := 8) C dX8_mills_8 (by decide) (fun h8 => ?_) (fun h8 => ?_)
    · skip
      refine zs_iconst (pc := 29) C dX8_mills_29 (by decide) ?_
      exact zs_iret (pc := 30) C hr hlk dX8_mills_30 ⟨rfl, trivial⟩
    · skip
      refine zs_iload_n (pc := 11) C dX8_mills_11 rfl ?_
      refine zs_if_lt (tgt := 29) (pc := 12) C dX8_mills_12 (by decide) (fun h12 => ?_) (fun h12 => ?_)
      · skip
        refine zs_iconst (pc := 29) C dX8_mills_29 (by decide) ?_
        exact zs_iret (pc := 30) C hr hlk dX8_mills_30 ⟨rfl, trivial⟩
      · skip
        refine zs_iload_n (pc := 15) C dX8_mills_15 rfl ?_
        refine zs_iconst (pc := 16) C dX8_mills_16 (by decide) ?_
        refine zs_icmp_gt (tgt := 29) (pc := 17) C dX8_mills_17 (by decide) (fun h17 => ?_) (fun h17 => ?_)
        · skip
          refine zs_iconst (pc := 29) C dX8_mills_29 (by decide) ?_
          exact zs_iret (pc := 30) C hr hlk dX8_mills_30 ⟨rfl, trivial⟩
        · skip
          refine zs_aload_n (pc := 20) C dX8_mills_20 rfl ?_
          refine zs_iload_n (pc := 21) C dX8_mills_21 rfl ?_
          refine zs_iload_n (pc := 22) C dX8_mills_22 rfl ?_
          refine zVip2 (pc := 23) C dX8_mills_23 v_X8_291 (c_X8_isRow hX (by omega)) (by decide) (by decide) ⟨Nat.zero_le _, Nat.zero_le _⟩ (Nat.le_of_ble_eq_true rfl) (fun x23 l23 u23 hp23 => ?_)
          have hq23 := hp23
          refine zs_if_ne (tgt := 31) (pc := 26) C dX8_mills_26 (by decide) (fun h26 => ?_) (fun h26 => ?_)
          · skip
            refine zs_ldcw (n := 2147483647) (pc := 31) C dX8_mills_31 q_X8_294 (by decide) (by decide) ?_
            refine zs_istore (pc := 34) C dX8_mills_34 (by decide) ?_
            dsimp only [zset, zclr, znone]
            refine zs_iconst (pc := 36) C dX8_mills_36 (by decide) ?_
            refine zs_istore (pc := 37) C dX8_mills_37 (by decide) ?_
            dsimp only [zset, zclr, znone]
            refine zs_iconst (pc := 39) C dX8_mills_39 (by decide) ?_
            refine zs_istore (pc := 40) C dX8_mills_40 (by decide) ?_
            dsimp only [zset, zclr, znone]
            have L42 : ∀ (nn : Nat) (x4 x5 x6 : Int), (0 ≤ x6 ∧ x6 ≤ 2147483647) → (2147483647 - x6).toNat < nn → Z p l e (zrm 2) s m args below meth c Γ 8 0 0 (MQ below (zQc Γ (zpi (fun x G' => G' = G ∧ True))) args s 0 0 (zA Γ)) 42 [some (zr 9 w), some (zi a), some (zi b), some (zi k), some (zi x4), some (zi x5), some (zi x6), none] [] G := by
              intro nn
              induction nn with
              | zero => intro x4 x5 x6 h42_0 hm; exact absurd hm (Nat.not_lt_zero _)
              | succ nn ih42 =>
                intro x4 x5 x6 h42_0 hm42
                refine zs_iload (pc := 42) C dX8_mills_42 rfl ?_
                refine zs_iconst (pc := 44) C dX8_mills_44 (by decide) ?_
                refine zs_iload_n (pc := 45) C dX8_mills_45 rfl ?_
                refine zs_ishlF (pc := 46) C dX8_mills_46 (fun z46 hz461 hz462 => ?_)
                refine zs_icmp_ge (tgt := 81) (pc := 47) C dX8_mills_47 (by decide) (fun h47 => ?_) (fun h47 => ?_)
                · skip
                  refine zs_iload_n (pc := 81) C dX8_mills_81 rfl ?_
                  refine zs_if_ne (tgt := 90) (pc := 82) C dX8_mills_82 (by decide) (fun h82 => ?_) (fun h82 => ?_)
                  · skip
                    refine zs_iload (pc := 90) C dX8_mills_90 rfl ?_
                    exact zs_iret (pc := 92) C hr hlk dX8_mills_92 ⟨rfl, trivial⟩
                  · skip
                    refine zs_iload (pc := 85) C dX8_mills_85 rfl ?_
                    refine zs_goto (tgt := 92) (pc := 87) C dX8_mills_87 (by decide) ?_
                    exact zs_iret (pc := 92) C hr hlk dX8_mills_92 ⟨rfl, trivial⟩
                · skip
                  refine zs_aload_n (pc := 50) C dX8_mills_50 rfl ?_
                  refine zs_iload_n (pc := 51) C dX8_mills_51 rfl ?_
                  refine zs_iload_n (pc := 52) C dX8_mills_52 rfl ?_
                  refine zs_iload (pc := 53) C dX8_mills_53 rfl ?_
                  refine zVip3 (pc := 55) C dX8_mills_55 v_X8_295 (c_X8_greaterSum hX (by omega)) (by decide) (by decide) ⟨Nat.zero_le _, Nat.zero_le _⟩ (Nat.le_of_ble_eq_true rfl) (fun x55 l55 u55 hp55 => ?_)
                  have hq55 := hp55
                  refine zs_istore (pc := 58) C dX8_mills_58 (by decide) ?_
                  dsimp only [zset, zclr, znone]
                  refine zs_iload (pc := 60) C dX8_mills_60 rfl ?_
                  refine zs_iload (pc := 62) C dX8_mills_62 rfl ?_
                  refine zs_icmp_ge (tgt := 75) (pc := 64) C dX8_mills_64 (by decide) (fun h64 => ?_) (fun h64 => ?_)
                  · skip
                    first | refine zs_iinc (pc := 75) C dX8_mills_75 rfl (by decide) (by omega) ?_ | refine zs_iincF (pc := 75) C dX8_mills_75 rfl (by decide) (fun z75 hz751 hz752 => ?_)
                    dsimp only [zset, zclr, znone]
                    refine zs_goto (tgt := 42) (pc := 78) C dX8_mills_78 (by decide) ?_
                    exact zs_wk (ih42 _ _ _ (by first | omega | (simp only [zuI_1, zuI_2, zuJ_1, zuJ_2, zuJ_3, zuP_1, zuP_2, zuP_3, zuC_1, zuC_2, reduceIte, Nat.reduceEqDiff, false_and, and_false, true_and, and_true, and_self, or_true, true_or, or_false, false_or]; omega)) (by first | omega | (simp only [zuI_1, zuI_2, zuJ_1, zuJ_2, zuJ_3, zuP_1, zuP_2, zuP_3, zuC_1, zuC_2, reduceIte, Nat.reduceEqDiff, false_and, and_false, true_and, and_true, and_self, or_true, true_or, or_false, false_or]; omega))) (zwk_s rfl (zwk_s rfl (zwk_s rfl (zwk_s rfl (zwk_s rfl (zwk_s rfl (zwk_s rfl (zwk_n zwk_0))))))))
                  · skip
                    refine zs_iload (pc := 67) C dX8_mills_67 rfl ?_
                    refine zs_istore (pc := 69) C dX8_mills_69 (by decide) ?_
                    dsimp only [zset, zclr, znone]
                    refine zs_iload (pc := 71) C dX8_mills_71 rfl ?_
                    refine zs_istore (pc := 73) C dX8_mills_73 (by decide) ?_
                    dsimp only [zset, zclr, znone]
                    first | refine zs_iinc (pc := 75) C dX8_mills_75 rfl (by decide) (by omega) ?_ | refine zs_iincF (pc := 75) C dX8_mills_75 rfl (by decide) (fun z75 hz751 hz752 => ?_)
                    dsimp only [zset, zclr, znone]
                    refine zs_goto (tgt := 42) (pc := 78) C dX8_mills_78 (by decide) ?_
                    exact zs_wk (ih42 _ _ _ (by first | omega | (simp only [zuI_1, zuI_2, zuJ_1, zuJ_2, zuJ_3, zuP_1, zuP_2, zuP_3, zuC_1, zuC_2, reduceIte, Nat.reduceEqDiff, false_and, and_false, true_and, and_true, and_self, or_true, true_or, or_false, false_or]; omega)) (by first | omega | (simp only [zuI_1, zuI_2, zuJ_1, zuJ_2, zuJ_3, zuP_1, zuP_2, zuP_3, zuC_1, zuC_2, reduceIte, Nat.reduceEqDiff, false_and, and_false, true_and, and_true, and_self, or_true, true_or, or_false, false_or]; omega))) (zwk_s rfl (zwk_s rfl (zwk_s rfl (zwk_s rfl (zwk_s rfl (zwk_s rfl (zwk_s rfl (zwk_n zwk_0))))))))
            exact zs_wk (L42 _ _ _ _ (by first | omega | (simp only [zuI_1, zuI_2, zuJ_1, zuJ_2, zuJ_3, zuP_1, zuP_2, zuP_3, zuC_1, zuC_2, reduceIte, Nat.reduceEqDiff, false_and, and_false, true_and, and_true, and_self, or_true, true_or, or_false, false_or]; omega)) (Nat.lt_succ_self _)) (zwk_s rfl (zwk_s rfl (zwk_s rfl (zwk_s rfl (zwk_s rfl (zwk_s rfl (zwk_s rfl (zwk_n zwk_0))))))))
          · skip
            refine zs_iconst (pc := 29) C dX8_mills_29 (by decide) ?_
            exact zs_iret (pc := 30) C hr hlk dX8_mills_30 ⟨rfl, trivial⟩

set_option maxHeartbeats 4000000 in
set_option maxRecDepth 100000 in
theorem c_X8_pairs {l : Launch} {Γ : zΓ} {G : zH} {w : Nat}  (hX : zXs Γ)  : zMet l Γ yX8_pairs cX8_pairs 1 (some .long) 10 [zr 9 w] G (zpj (fun x G' => zsn [103, 105, 2011, 2012] G G' ∧ True)) := by
  refine zMet_of RX8 hX (by decide) rfl (Nat.le_of_ble_eq_true rfl) ?_
  intro p e s m args below meth c C hr hlk
  show Z p l e (zrm 10) s m args below meth c Γ 1 0 0 (MQ below (zQc Γ (zpj (fun x G' => zsn [103, 105, 2011, 2012] G G' ∧ True))) args s 0 0 (zA Γ)) 0 [some (zr 9 w)] [] G
  refine zs_aload_n (pc := 0) C dX8_pairs_0 rfl ?_
  refine zs_getd (r := 903) (pc := 1) C dX8_pairs_1 w_X8_25 f_9_3 (by decide) rfl (fun v1 e1 t1 => ?_)
  refine zs_getf (pc := 4) C dX8_pairs_4 w_X8_262 f_6_2 (by decide) ?_
  refine zs_iconst (pc := 7) C dX8_pairs_7 (by decide) ?_
  refine zs_iald (r := 2037) (pc := 8) C dX8_pairs_8 a_37 (by decide) (by omega) rfl rfl (fun v8 e8 l8 u8 => ?_)
  refine zs_if_ne (tgt := 16) (pc := 9) C dX8_pairs_9 (by decide) (fun h9 => ?_) (fun h9 => ?_)
  · skip
    refine zs_aload_n (pc := 16) C dX8_pairs_16 rfl ?_
    refine zs_getf (pc := 17) C dX8_pairs_17 w_X8_56 f_9_8 (by decide) ?_
    refine zs_aload_n (pc := 20) C dX8_pairs_20 rfl ?_
    refine zs_getf (pc := 21) C dX8_pairs_21 w_X8_34 f_9_4 (by decide) ?_
    refine zVv1 (pc := 24) C dX8_pairs_24 v_X8_306 (c_X0_bringTogether hX ) (by decide) (by decide) ⟨Nat.zero_le _, Nat.zero_le _⟩ (Nat.le_of_ble_eq_true rfl) (fun G24 hp24 => ?_)
    obtain ⟨hz24, hq24⟩ := hp24
    refine zs_aload_n (pc := 27) C dX8_pairs_27 rfl ?_
    refine zs_getf (pc := 28) C dX8_pairs_28 w_X8_56 f_9_8 (by decide) ?_
    refine zs_getj (r := 104) (pc := 31) C dX8_pairs_31 w_X8_309 f_1_4 rfl (fun v31 e31 l31 u31 => ?_)
    exact zs_lret (pc := 34) C hr hlk dX8_pairs_34 ⟨by repeat (first | exact zsn_rf | assumption | refine zsn_C (by decide) ?_ | refine zsn_I (by decide) ?_ | refine zsn_J ?_ | refine zsn_P ?_ | refine zsn_m (by assumption) (by decide) ?_ | refine zsn_c (by assumption) (by decide) ?_), trivial⟩
  · skip
    refine zs_ldc2 (n := -9223372036854775808) (pc := 12) C dX8_pairs_12 q_X8_152 (by decide) (by decide) ?_
    exact zs_lret (pc := 15) C hr hlk dX8_pairs_15 ⟨by repeat (first | exact zsn_rf | assumption | refine zsn_C (by decide) ?_ | refine zsn_I (by decide) ?_ | refine zsn_J ?_ | refine zsn_P ?_ | refine zsn_m (by assumption) (by decide) ?_ | refine zsn_c (by assumption) (by decide) ?_), trivial⟩

set_option maxHeartbeats 4000000 in
set_option maxRecDepth 100000 in
theorem c_X8_paired {l : Launch} {Γ : zΓ} {G : zH} {w : Nat} {p0 : Int} (hX : zXs Γ)  : zMet l Γ yX8_paired cX8_paired 3 (some .int) 10 [zr 9 w, zi p0] G (zpi (fun x G' => zsn [103, 105, 2011, 2012] G G' ∧ True)) := by
  refine zMet_of RX8 hX (by decide) rfl (Nat.le_of_ble_eq_true rfl) ?_
  intro p e s m args below meth c C hr hlk
  show Z p l e (zrm 10) s m args below meth c Γ 3 0 0 (MQ below (zQc Γ (zpi (fun x G' => zsn [103, 105, 2011, 2012] G G' ∧ True))) args s 0 0 (zA Γ)) 0 [some (zr 9 w), some (zi p0), none] [] G
  refine zs_loc 1 rfl (fun ha1 hb1 => ?_)
  refine zs_aload_n (pc := 0) C dX8_paired_0 rfl ?_
  refine zs_getd (r := 903) (pc := 1) C dX8_paired_1 w_X8_25 f_9_3 (by decide) rfl (fun v1 e1 t1 => ?_)
  refine zs_iconst (pc := 4) C dX8_paired_4 (by decide) ?_
  refine zs_iload_n (pc := 5) C dX8_paired_5 rfl ?_
  refine zVip2 (pc := 6) C dX8_paired_6 v_X8_104 (c_X5_has hX (by omega)) (by decide) (by decide) ⟨Nat.zero_le _, Nat.zero_le _⟩ (Nat.le_of_ble_eq_true rfl) (fun x6 l6 u6 hp6 => ?_)
  have hq6 := hp6
  refine zs_if_ne (tgt := 14) (pc := 9) C dX8_paired_9 (by decide) (fun h9 => ?_) (fun h9 => ?_)
  · skip
    refine zs_aload_n (pc := 14) C dX8_paired_14 rfl ?_
    refine zs_getf (pc := 15) C dX8_paired_15 w_X8_56 f_9_8 (by decide) ?_
    refine zs_aload_n (pc := 18) C dX8_paired_18 rfl ?_
    refine zs_getf (pc := 19) C dX8_paired_19 w_X8_34 f_9_4 (by decide) ?_
    refine zVv1 (pc := 22) C dX8_paired_22 v_X8_306 (c_X0_bringTogether hX ) (by decide) (by decide) ⟨Nat.zero_le _, Nat.zero_le _⟩ (Nat.le_of_ble_eq_true rfl) (fun G22 hp22 => ?_)
    obtain ⟨hz22, hq22⟩ := hp22
    refine zs_aload_n (pc := 25) C dX8_paired_25 rfl ?_
    refine zs_getf (pc := 26) C dX8_paired_26 w_X8_56 f_9_8 (by decide) ?_
    refine zs_getf (pc := 29) C dX8_paired_29 w_X8_313 f_1_1 (by decide) ?_
    refine zs_iload_n (pc := 32) C dX8_paired_32 rfl ?_
    refine zs_iald (r := 2012) (pc := 33) C dX8_paired_33 a_12 (by decide) (by omega) rfl (r_2012 _) (fun v33 e33 l33 u33 => ?_)
    refine zs_istore_n (pc := 34) C dX8_paired_34 (by decide) ?_
    dsimp only [zset, zclr, znone]
    refine zs_iload_n (pc := 35) C dX8_paired_35 rfl ?_
    refine zs_iconst (pc := 36) C dX8_paired_36 (by decide) ?_
    refine zs_icmp_ne (tgt := 45) (pc := 37) C dX8_paired_37 (by decide) (fun h37 => ?_) (fun h37 => ?_)
    · skip
      refine zs_iload_n (pc := 45) C dX8_paired_45 rfl ?_
      exact zs_iret (pc := 46) C hr hlk dX8_paired_46 ⟨by repeat (first | exact zsn_rf | assumption | refine zsn_C (by decide) ?_ | refine zsn_I (by decide) ?_ | refine zsn_J ?_ | refine zsn_P ?_ | refine zsn_m (by assumption) (by decide) ?_ | refine zsn_c (by assumption) (by decide) ?_), trivial⟩
    · skip
      refine zs_bipush (pc := 40) C dX8_paired_40 (by decide) (by decide) ?_
      refine zs_goto (tgt := 46) (pc := 42) C dX8_paired_42 (by decide) ?_
      exact zs_iret (pc := 46) C hr hlk dX8_paired_46 ⟨by repeat (first | exact zsn_rf | assumption | refine zsn_C (by decide) ?_ | refine zsn_I (by decide) ?_ | refine zsn_J ?_ | refine zsn_P ?_ | refine zsn_m (by assumption) (by decide) ?_ | refine zsn_c (by assumption) (by decide) ?_), trivial⟩
  · skip
    refine zs_iconst (pc := 12) C dX8_paired_12 (by decide) ?_
    exact zs_iret (pc := 13) C hr hlk dX8_paired_13 ⟨by repeat (first | exact zsn_rf | assumption | refine zsn_C (by decide) ?_ | refine zsn_I (by decide) ?_ | refine zsn_J ?_ | refine zsn_P ?_ | refine zsn_m (by assumption) (by decide) ?_ | refine zsn_c (by assumption) (by decide) ?_), trivial⟩

set_option maxHeartbeats 4000000 in
set_option maxRecDepth 100000 in
theorem c_X8_lies {l : Launch} {Γ : zΓ} {G : zH} {w : Nat} {a p0 k : Int} (hX : zXs Γ)  : zMet l Γ yX8_lies cX8_lies 7 (some .int) 3 [zr 9 w, zi a, zi p0, zi k] G (zpi (fun x G' => zsn [510, 2026, 2027, 2028, 2029, 2030, 2031, 2032, 2033, 2034, 2035, 2048, 2049, 2050, 2051, 2052, 2053, 809, 810, 811, 812, 813] G G' ∧ True)) := by
  refine zMet_of RX8 hX (by decide) rfl (Nat.le_of_ble_eq_true rfl) ?_
  intro p e s m args below meth c C hr hlk
  show Z p l e (zrm 3) s m args below meth c Γ 7 0 0 (MQ below (zQc Γ (zpi (fun x G' => zsn [510, 2026, 2027, 2028, 2029, 2030, 2031, 2032, 2033, 2034, 2035, 2048, 2049, 2050, 2051, 2052, 2053, 809, 810, 811, 812, 813] G G' ∧ True))) args s 0 0 (zA Γ)) 0 [some (zr 9 w), some (zi a), some (zi p0), some (zi k), none, none, none] [] G
  refine zs_loc 1 rfl (fun ha1 hb1 => ?_)
  refine zs_loc 2 rfl (fun ha2 hb2 => ?_)
  refine zs_loc 3 rfl (fun ha3 hb3 => ?_)
  refine zs_iload_n (pc := 0) C dX8_lies_0 rfl ?_
  refine zs_if_lt (tgt := 27) (pc := 1) C dX8_lies_1 (by decide) (fun h1 => ?_) (fun h1 => ?_)
  · skip
    refine zs_iconst (pc := 27) C dX8_lies_27 (by decide) ?_
    exact zs_iret (pc := 28) C hr hlk dX8_lies_28 ⟨by repeat (first | exact zsn_rf | assumption | refine zsn_C (by decide) ?_ | refine zsn_I (by decide) ?_ | refine zsn_J ?_ | refine zsn_P ?_ | refine zsn_m (by assumption) (by decide) ?_ | refine zsn_c (by assumption) (by decide) ?_), trivial⟩
  · skip
    refine zs_aload_n (pc := 4) C dX8_lies_4 rfl ?_
    refine zs_getd (r := 903) (pc := 5) C dX8_lies_5 w_X8_25 f_9_3 (by decide) rfl (fun v5 e5 t5 => ?_)
    refine zs_iconst (pc := 8) C dX8_lies_8 (by decide) ?_
    refine zs_iload_n (pc := 9) C dX8_lies_9 rfl ?_
    refine zVip2 (pc := 10) C dX8_lies_10 v_X8_104 (c_X5_has hX (by omega)) (by decide) (by decide) ⟨Nat.zero_le _, Nat.zero_le _⟩ (Nat.le_of_ble_eq_true rfl) (fun x10 l10 u10 hp10 => ?_)
    have hq10 := hp10
    refine zs_if_eq (tgt := 27) (pc := 13) C dX8_lies_13 (by decide) (fun h13 => ?_) (fun h13 => ?_)
    · skip
      refine zs_iconst (pc := 27) C dX8_lies_27 (by decide) ?_
      exact zs_iret (pc := 28) C hr hlk dX8_lies_28 ⟨by repeat (first | exact zsn_rf | assumption | refine zsn_C (by decide) ?_ | refine zsn_I (by decide) ?_ | refine zsn_J ?_ | refine zsn_P ?_ | refine zsn_m (by assumption) (by decide) ?_ | refine zsn_c (by assumption) (by decide) ?_), trivial⟩
    · skip
      refine zs_iload_n (pc := 16) C dX8_lies_16 rfl ?_
      refine zs_iconst (pc := 17) C dX8_lies_17 (by decide) ?_
      refine zs_icmp_lt (tgt := 27) (pc := 18) C dX8_lies_18 (by decide) (fun h18 => ?_) (fun h18 => ?_)
      · skip
        refine zs_iconst (pc := 27) C dX8_lies_27 (by decide) ?_
        exact zs_iret (pc := 28) C hr hlk dX8_lies_28 ⟨by repeat (first | exact zsn_rf | assumption | refine zsn_C (by decide) ?_ | refine zsn_I (by decide) ?_ | refine zsn_J ?_ | refine zsn_P ?_ | refine zsn_m (by assumption) (by decide) ?_ | refine zsn_c (by assumption) (by decide) ?_), trivial⟩
      · skip
        refine zs_iload_n (pc := 21) C dX8_lies_21 rfl ?_
        refine zs_bipush (pc := 22) C dX8_lies_22 (by decide) (by decide) ?_
        refine zs_icmp_le (tgt := 29) (pc := 24) C dX8_lies_24 (by decide) (fun h24 => ?_) (fun h24 => ?_)
        · skip
          refine zs_aload_n (pc := 29) C dX8_lies_29 rfl ?_
          refine zs_getf (pc := 30) C dX8_lies_30 w_X8_41 f_9_6 (by decide) ?_
          refine zs_aload_n (pc := 33) C dX8_lies_33 rfl ?_
          refine zs_getf (pc := 34) C dX8_lies_34 w_X8_34 f_9_4 (by decide) ?_
          refine zVv1 (pc := 37) C dX8_lies_37 v_X8_288 (c_X7_copyFrom hX ) (by decide) (by decide) ⟨Nat.zero_le _, Nat.zero_le _⟩ (Nat.le_of_ble_eq_true rfl) (fun G37 hp37 => ?_)
          obtain ⟨hz37, hq37⟩ := hp37
          refine zs_aload_n (pc := 40) C dX8_lies_40 rfl ?_
          refine zs_getf (pc := 41) C dX8_lies_41 w_X8_41 f_9_6 (by decide) ?_
          refine zs_iload_n (pc := 44) C dX8_lies_44 rfl ?_
          refine zs_puti (r := 812) (pc := 45) C dX8_lies_45 w_X8_316 f_8_12 rfl (r_812 0) (by omega) ?_
          refine zs_iconst (pc := 48) C dX8_lies_48 (by decide) ?_
          refine zs_istore (pc := 49) C dX8_lies_49 (by decide) ?_
          dsimp only [zset, zclr, znone]
          refine zs_iconst (pc := 51) C dX8_lies_51 (by decide) ?_
          refine zs_istore (pc := 52) C dX8_lies_52 (by decide) ?_
          dsimp only [zset, zclr, znone]
          have L54 : ∀ (nn : Nat) (x4 x5 : Int) (G1 : zH), (0 ≤ x5 ∧ x5 ≤ 40) → (zsn [510, 2026, 2027, 2028, 2029, 2030, 2031, 2032, 2033, 2034, 2035, 2048, 2049, 2050, 2051, 2052, 2053, 809, 810, 811, 812, 813] G G1) → (40 - x5).toNat < nn → Z p l e (zrm 3) s m args below meth c Γ 7 0 0 (MQ below (zQc Γ (zpi (fun x G' => zsn [510, 2026, 2027, 2028, 2029, 2030, 2031, 2032, 2033, 2034, 2035, 2048, 2049, 2050, 2051, 2052, 2053, 809, 810, 811, 812, 813] G G' ∧ True))) args s 0 0 (zA Γ)) 54 [some (zr 9 w), some (zi a), some (zi p0), some (zi k), some (zi x4), some (zi x5), none] [] G1 := by
            intro nn
            induction nn with
            | zero => intro x4 x5 G1 h54_0 h54_1 hm; exact absurd hm (Nat.not_lt_zero _)
            | succ nn ih54 =>
              intro x4 x5 G1 h54_0 h54_1 hm54
              refine zs_iload (pc := 54) C dX8_lies_54 rfl ?_
              refine zs_iload_n (pc := 56) C dX8_lies_56 rfl ?_
              refine zs_icmp_ge (tgt := 105) (pc := 57) C dX8_lies_57 (by decide) (fun h57 => ?_) (fun h57 => ?_)
              · skip
                refine zs_iload (pc := 105) C dX8_lies_105 rfl ?_
                exact zs_iret (pc := 107) C hr hlk dX8_lies_107 ⟨by repeat (first | exact zsn_rf | assumption | refine zsn_C (by decide) ?_ | refine zsn_I (by decide) ?_ | refine zsn_J ?_ | refine zsn_P ?_ | refine zsn_m (by assumption) (by decide) ?_ | refine zsn_c (by assumption) (by decide) ?_), trivial⟩
              · skip
                refine zs_aload_n (pc := 60) C dX8_lies_60 rfl ?_
                refine zs_getf (pc := 61) C dX8_lies_61 w_X8_41 f_9_6 (by decide) ?_
                refine zs_iload_n (pc := 64) C dX8_lies_64 rfl ?_
                refine zVi1 (pc := 65) C dX8_lies_65 v_X8_181 (c_X7_sinByChance hX (by omega)) (by decide) (by decide) ⟨Nat.zero_le _, Nat.zero_le _⟩ (Nat.le_of_ble_eq_true rfl) (fun x65 G65 l65 u65 hp65 => ?_)
                obtain ⟨hz65, hq65⟩ := hp65
                refine zs_istore (pc := 68) C dX8_lies_68 (by decide) ?_
                dsimp only [zset, zclr, znone]
                refine zs_aload_n (pc := 70) C dX8_lies_70 rfl ?_
                refine zs_getd (r := 903) (pc := 71) C dX8_lies_71 w_X8_25 f_9_3 (by decide) rfl (fun v71 e71 t71 => ?_)
                try simp only [hz65.2, zuI_1, zuI_2, zuJ_1, zuJ_2, zuJ_3, zuP_1, zuP_2, zuP_3, zuC_1, zuC_2, reduceIte, Nat.reduceEqDiff, false_and, and_false, true_and, and_true, and_self, or_true, true_or, or_false, false_or] at e71
                refine zs_iconst (pc := 74) C dX8_lies_74 (by decide) ?_
                refine zs_iload (pc := 75) C dX8_lies_75 rfl ?_
                refine zVip2 (pc := 77) C dX8_lies_77 v_X8_104 (c_X5_has hX (by omega)) (by decide) (by decide) ⟨Nat.zero_le _, Nat.zero_le _⟩ (Nat.le_of_ble_eq_true rfl) (fun x77 l77 u77 hp77 => ?_)
                have hq77 := hp77
                refine zs_if_eq (tgt := 99) (pc := 80) C dX8_lies_80 (by decide) (fun h80 => ?_) (fun h80 => ?_)
                · skip
                  first | refine zs_iinc (pc := 99) C dX8_lies_99 rfl (by decide) (by omega) ?_ | refine zs_iincF (pc := 99) C dX8_lies_99 rfl (by decide) (fun z99 hz991 hz992 => ?_)
                  dsimp only [zset, zclr, znone]
                  refine zs_goto (tgt := 54) (pc := 102) C dX8_lies_102 (by decide) ?_
                  exact zs_wk (ih54 _ _ _ (by first | omega | (simp only [zuI_1, zuI_2, zuJ_1, zuJ_2, zuJ_3, zuP_1, zuP_2, zuP_3, zuC_1, zuC_2, reduceIte, Nat.reduceEqDiff, false_and, and_false, true_and, and_true, and_self, or_true, true_or, or_false, false_or]; omega)) (by repeat (first | exact zsn_rf | assumption | refine zsn_C (by decide) ?_ | refine zsn_I (by decide) ?_ | refine zsn_J ?_ | refine zsn_P ?_ | refine zsn_m (by assumption) (by decide) ?_ | refine zsn_c (by assumption) (by decide) ?_)) (by first | omega | (simp only [zuI_1, zuI_2, zuJ_1, zuJ_2, zuJ_3, zuP_1, zuP_2, zuP_3, zuC_1, zuC_2, reduceIte, Nat.reduceEqDiff, false_and, and_false, true_and, and_true, and_self, or_true, true_or, or_false, false_or]; omega))) (zwk_s rfl (zwk_s rfl (zwk_s rfl (zwk_s rfl (zwk_s rfl (zwk_s rfl (zwk_n zwk_0)))))))
                · skip
                  refine zs_aload_n (pc := 83) C dX8_lies_83 rfl ?_
                  refine zs_getf (pc := 84) C dX8_lies_84 w_X8_41 f_9_6 (by decide) ?_
                  refine zs_iload_n (pc := 87) C dX8_lies_87 rfl ?_
                  refine zs_iload (pc := 88) C dX8_lies_88 rfl ?_
                  refine zVip2 (pc := 90) C dX8_lies_90 v_X8_142 (c_X7_leftOf hX (by omega) (by omega)) (by decide) (by decide) ⟨Nat.zero_le _, Nat.zero_le _⟩ (Nat.le_of_ble_eq_true rfl) (fun x90 l90 u90 hp90 => ?_)
                  have hq90 := hp90
                  refine zs_if_ne (tgt := 99) (pc := 93) C dX8_lies_93 (by decide) (fun h93 => ?_) (fun h93 => ?_)
                  · skip
                    first | refine zs_iinc (pc := 99) C dX8_lies_99 rfl (by decide) (by omega) ?_ | refine zs_iincF (pc := 99) C dX8_lies_99 rfl (by decide) (fun z99 hz991 hz992 => ?_)
                    dsimp only [zset, zclr, znone]
                    refine zs_goto (tgt := 54) (pc := 102) C dX8_lies_102 (by decide) ?_
                    exact zs_wk (ih54 _ _ _ (by first | omega | (simp only [zuI_1, zuI_2, zuJ_1, zuJ_2, zuJ_3, zuP_1, zuP_2, zuP_3, zuC_1, zuC_2, reduceIte, Nat.reduceEqDiff, false_and, and_false, true_and, and_true, and_self, or_true, true_or, or_false, false_or]; omega)) (by repeat (first | exact zsn_rf | assumption | refine zsn_C (by decide) ?_ | refine zsn_I (by decide) ?_ | refine zsn_J ?_ | refine zsn_P ?_ | refine zsn_m (by assumption) (by decide) ?_ | refine zsn_c (by assumption) (by decide) ?_)) (by first | omega | (simp only [zuI_1, zuI_2, zuJ_1, zuJ_2, zuJ_3, zuP_1, zuP_2, zuP_3, zuC_1, zuC_2, reduceIte, Nat.reduceEqDiff, false_and, and_false, true_and, and_true, and_self, or_true, true_or, or_false, false_or]; omega))) (zwk_s rfl (zwk_s rfl (zwk_s rfl (zwk_s rfl (zwk_s rfl (zwk_s rfl (zwk_n zwk_0)))))))
                  · skip
                    first | refine zs_iinc (pc := 96) C dX8_lies_96 rfl (by decide) (by omega) ?_ | refine zs_iincF (pc := 96) C dX8_lies_96 rfl (by decide) (fun z96 hz961 hz962 => ?_)
                    dsimp only [zset, zclr, znone]
                    first | refine zs_iinc (pc := 99) C dX8_lies_99 rfl (by decide) (by omega) ?_ | refine zs_iincF (pc := 99) C dX8_lies_99 rfl (by decide) (fun z99 hz991 hz992 => ?_)
                    dsimp only [zset, zclr, znone]
                    refine zs_goto (tgt := 54) (pc := 102) C dX8_lies_102 (by decide) ?_
                    exact zs_wk (ih54 _ _ _ (by first | omega | (simp only [zuI_1, zuI_2, zuJ_1, zuJ_2, zuJ_3, zuP_1, zuP_2, zuP_3, zuC_1, zuC_2, reduceIte, Nat.reduceEqDiff, false_and, and_false, true_and, and_true, and_self, or_true, true_or, or_false, false_or]; omega)) (by repeat (first | exact zsn_rf | assumption | refine zsn_C (by decide) ?_ | refine zsn_I (by decide) ?_ | refine zsn_J ?_ | refine zsn_P ?_ | refine zsn_m (by assumption) (by decide) ?_ | refine zsn_c (by assumption) (by decide) ?_)) (by first | omega | (simp only [zuI_1, zuI_2, zuJ_1, zuJ_2, zuJ_3, zuP_1, zuP_2, zuP_3, zuC_1, zuC_2, reduceIte, Nat.reduceEqDiff, false_and, and_false, true_and, and_true, and_self, or_true, true_or, or_false, false_or]; omega))) (zwk_s rfl (zwk_s rfl (zwk_s rfl (zwk_s rfl (zwk_s rfl (zwk_s rfl (zwk_n zwk_0)))))))
          exact zs_wk (L54 _ _ _ _ (by first | omega | (simp only [zuI_1, zuI_2, zuJ_1, zuJ_2, zuJ_3, zuP_1, zuP_2, zuP_3, zuC_1, zuC_2, reduceIte, Nat.reduceEqDiff, false_and, and_false, true_and, and_true, and_self, or_true, true_or, or_false, false_or]; omega)) (by repeat (first | exact zsn_rf | assumption | refine zsn_C (by decide) ?_ | refine zsn_I (by decide) ?_ | refine zsn_J ?_ | refine zsn_P ?_ | refine zsn_m (by assumption) (by decide) ?_ | refine zsn_c (by assumption) (by decide) ?_)) (Nat.lt_succ_self _)) (zwk_s rfl (zwk_s rfl (zwk_s rfl (zwk_s rfl (zwk_s rfl (zwk_s rfl (zwk_n zwk_0)))))))
        · skip
          refine zs_iconst (pc := 27) C dX8_lies_27 (by decide) ?_
          exact zs_iret (pc := 28) C hr hlk dX8_lies_28 ⟨by repeat (first | exact zsn_rf | assumption | refine zsn_C (by decide) ?_ | refine zsn_I (by decide) ?_ | refine zsn_J ?_ | refine zsn_P ?_ | refine zsn_m (by assumption) (by decide) ?_ | refine zsn_c (by assumption) (by decide) ?_), trivial⟩

set_option maxHeartbeats 4000000 in
set_option maxRecDepth 100000 in
theorem c_X8_known {l : Launch} {Γ : zΓ} {G : zH} {w : Nat} {k : Int} (hX : zXs Γ)  : zMet l Γ yX8_known cX8_known 2 (some .boolean) 0 [zr 9 w, zi k] G (zpi (fun x G' => zsn [813] G G' ∧ (x = 0 ∨ x = 1))) := by
  refine zMet_of RX8 hX (by decide) rfl (Nat.le_of_ble_eq_true rfl) ?_
  intro p e s m args below meth c C hr hlk
  show Z p l e (zrm 0) s m args below meth c Γ 2 0 0 (MQ below (zQc Γ (zpi (fun x G' => zsn [813] G G' ∧ (x = 0 ∨ x = 1)))) args s 0 0 (zA Γ)) 0 [some (zr 9 w), some (zi k)] [] G
  refine zs_loc 1 rfl (fun ha1 hb1 => ?_)
  refine zs_iload_n (pc := 0) C dX8_known_0 rfl ?_
  refine zs_iconst (pc := 1) C dX8_known_1 (by decide) ?_
  refine zs_icmp_lt (tgt := 19) (pc := 2) C dX8_known_2 (by decide) (fun h2 => ?_) (fun h2 => ?_)
  · skip
    refine zs_iconst (pc := 19) C dX8_known_19 (by decide) ?_
    exact zs_zret (pc := 20) C hr hlk dX8_known_20 (by omega) ⟨by repeat (first | exact zsn_rf | assumption | refine zsn_C (by decide) ?_ | refine zsn_I (by decide) ?_ | refine zsn_J ?_ | refine zsn_P ?_ | refine zsn_m (by assumption) (by decide) ?_ | refine zsn_c (by assumption) (by decide) ?_), by first | omega | (simp only [zuI_1, zuI_2, zuJ_1, zuJ_2, zuJ_3, zuP_1, zuP_2, zuP_3, zuC_1, zuC_2, reduceIte, Nat.reduceEqDiff, false_and, and_false, true_and, and_true, and_self, or_true, true_or, or_false, false_or]; omega)⟩
  · skip
    refine zs_iload_n (pc := 5) C dX8_known_5 rfl ?_
    refine zs_aload_n (pc := 6) C dX8_known_6 rfl ?_
    refine zs_getf (pc := 7) C dX8_known_7 w_X8_34 f_9_4 (by decide) ?_
    refine zs_getf (pc := 10) C dX8_known_10 w_X8_172 f_8_1 (by decide) ?_
    refine zs_geti (r := 510) (pc := 13) C dX8_known_13 w_X8_176 f_5_10 rfl (r_510 0) (fun v13 e13 l13 u13 => ?_)
    refine zs_icmp_le (tgt := 21) (pc := 16) C dX8_known_16 (by decide) (fun h16 => ?_) (fun h16 => ?_)
    · skip
      refine zs_aload_n (pc := 21) C dX8_known_21 rfl ?_
      refine zs_getf (pc := 22) C dX8_known_22 w_X8_34 f_9_4 (by decide) ?_
      refine zs_iload_n (pc := 25) C dX8_known_25 rfl ?_
      refine zs_puti (r := 813) (pc := 26) C dX8_known_26 w_X8_319 f_8_13 rfl (r_813 0) (by omega) ?_
      refine zs_iconst (pc := 29) C dX8_known_29 (by decide) ?_
      exact zs_zret (pc := 30) C hr hlk dX8_known_30 (by omega) ⟨by repeat (first | exact zsn_rf | assumption | refine zsn_C (by decide) ?_ | refine zsn_I (by decide) ?_ | refine zsn_J ?_ | refine zsn_P ?_ | refine zsn_m (by assumption) (by decide) ?_ | refine zsn_c (by assumption) (by decide) ?_), by first | omega | (simp only [zuI_1, zuI_2, zuJ_1, zuJ_2, zuJ_3, zuP_1, zuP_2, zuP_3, zuC_1, zuC_2, reduceIte, Nat.reduceEqDiff, false_and, and_false, true_and, and_true, and_self, or_true, true_or, or_false, false_or]; omega)⟩
    · skip
      refine zs_iconst (pc := 19) C dX8_known_19 (by decide) ?_
      exact zs_zret (pc := 20) C hr hlk dX8_known_20 (by omega) ⟨by repeat (first | exact zsn_rf | assumption | refine zsn_C (by decide) ?_ | refine zsn_I (by decide) ?_ | refine zsn_J ?_ | refine zsn_P ?_ | refine zsn_m (by assumption) (by decide) ?_ | refine zsn_c (by assumption) (by decide) ?_), by first | omega | (simp only [zuI_1, zuI_2, zuJ_1, zuJ_2, zuJ_3, zuP_1, zuP_2, zuP_3, zuC_1, zuC_2, reduceIte, Nat.reduceEqDiff, false_and, and_false, true_and, and_true, and_self, or_true, true_or, or_false, false_or]; omega)⟩

set_option maxHeartbeats 4000000 in
set_option maxRecDepth 100000 in
theorem c_X8_fits {l : Launch} {Γ : zΓ} {G : zH} {w : Nat}  (hX : zXs Γ)  : zMet l Γ yX8_fits cX8_fits 4 (some .int) 5 [zr 9 w] G (zpi (fun x G' => zsn [] G G' ∧ True)) := by
  refine zMet_of RX8 hX (by decide) rfl (Nat.le_of_ble_eq_true rfl) ?_
  intro p e s m args below meth c C hr hlk
  show Z p l e (zrm 5) s m args below meth c Γ 4 0 0 (MQ below (zQc Γ (zpi (fun x G' => zsn [] G G' ∧ True))) args s 0 0 (zA Γ)) 0 [some (zr 9 w), none, none, none] [] G
  refine zs_aload_n (pc := 0) C dX8_fits_0 rfl ?_
  refine zs_getd (r := 903) (pc := 1) C dX8_fits_1 w_X8_25 f_9_3 (by decide) rfl (fun v1 e1 t1 => ?_)
  refine zs_getf (pc := 4) C dX8_fits_4 w_X8_262 f_6_2 (by decide) ?_
  refine zs_iconst (pc := 7) C dX8_fits_7 (by decide) ?_
  refine zs_iald (r := 2037) (pc := 8) C dX8_fits_8 a_37 (by decide) (by omega) rfl rfl (fun v8 e8 l8 u8 => ?_)
  have hsz := rs_2037 (3 : Int).toNat
  refine zs_istore_n (pc := 9) C dX8_fits_9 (by decide) ?_
  dsimp only [zset, zclr, znone]
  refine zs_iconst (pc := 10) C dX8_fits_10 (by decide) ?_
  refine zs_istore_n (pc := 11) C dX8_fits_11 (by decide) ?_
  dsimp only [zset, zclr, znone]
  refine zs_iconst (pc := 12) C dX8_fits_12 (by decide) ?_
  refine zs_istore_n (pc := 13) C dX8_fits_13 (by decide) ?_
  dsimp only [zset, zclr, znone]
  have L14 : ∀ (nn : Nat) (x1 x2 x3 : Int) (G1 : zH), (x1 ≤ 3) → (0 ≤ x3 ∧ x3 ≤ 3) → (zsn [] G G1) → (3 - x3).toNat < nn → Z p l e (zrm 5) s m args below meth c Γ 4 0 0 (MQ below (zQc Γ (zpi (fun x G' => zsn [] G G' ∧ True))) args s 0 0 (zA Γ)) 14 [some (zr 9 w), some (zi x1), some (zi x2), some (zi x3)] [] G1 := by
    intro nn
    induction nn with
    | zero => intro x1 x2 x3 G1 h14_0 h14_1 h14_2 hm; exact absurd hm (Nat.not_lt_zero _)
    | succ nn ih14 =>
      intro x1 x2 x3 G1 h14_0 h14_1 h14_2 hm14
      refine zs_iload_n (pc := 14) C dX8_fits_14 rfl ?_
      refine zs_iload_n (pc := 15) C dX8_fits_15 rfl ?_
      refine zs_icmp_ge (tgt := 48) (pc := 16) C dX8_fits_16 (by decide) (fun h16 => ?_) (fun h16 => ?_)
      · skip
        refine zs_aload_n (pc := 48) C dX8_fits_48 rfl ?_
        refine zs_getf (pc := 49) C dX8_fits_49 w_X8_34 f_9_4 (by decide) ?_
        refine zs_iconst (pc := 52) C dX8_fits_52 (by decide) ?_
        refine zVi1 (pc := 53) C dX8_fits_53 v_X8_322 (c_X7_isFitting hX ) (by decide) (by decide) ⟨Nat.zero_le _, Nat.zero_le _⟩ (Nat.le_of_ble_eq_true rfl) (fun x53 G53 l53 u53 hp53 => ?_)
        obtain ⟨hz53, hq53⟩ := hp53
        refine zs_if_eq (tgt := 67) (pc := 56) C dX8_fits_56 (by decide) (fun h56 => ?_) (fun h56 => ?_)
        · skip
          refine zs_iload_n (pc := 67) C dX8_fits_67 rfl ?_
          exact zs_iret (pc := 68) C hr hlk dX8_fits_68 ⟨by repeat (first | exact zsn_rf | assumption | refine zsn_C (by decide) ?_ | refine zsn_I (by decide) ?_ | refine zsn_J ?_ | refine zsn_P ?_ | refine zsn_m (by assumption) (by decide) ?_ | refine zsn_c (by assumption) (by decide) ?_), trivial⟩
        · skip
          refine zs_iload_n (pc := 59) C dX8_fits_59 rfl ?_
          refine zs_iconst (pc := 60) C dX8_fits_60 (by decide) ?_
          refine zs_iload_n (pc := 61) C dX8_fits_61 rfl ?_
          refine zs_ishlF (pc := 62) C dX8_fits_62 (fun z62 hz621 hz622 => ?_)
          refine zs_iorF (pc := 63) C dX8_fits_63 (fun z63 hz631 hz632 => ?_)
          refine zs_goto (tgt := 68) (pc := 64) C dX8_fits_64 (by decide) ?_
          exact zs_iret (pc := 68) C hr hlk dX8_fits_68 ⟨by repeat (first | exact zsn_rf | assumption | refine zsn_C (by decide) ?_ | refine zsn_I (by decide) ?_ | refine zsn_J ?_ | refine zsn_P ?_ | refine zsn_m (by assumption) (by decide) ?_ | refine zsn_c (by assumption) (by decide) ?_), trivial⟩
      · skip
        refine zs_iload_n (pc := 19) C dX8_fits_19 rfl ?_
        refine zs_aload_n (pc := 20) C dX8_fits_20 rfl ?_
        refine zs_getf (pc := 21) C dX8_fits_21 w_X8_34 f_9_4 (by decide) ?_
        refine zs_iconst (pc := 24) C dX8_fits_24 (by decide) ?_
        refine zs_iload_n (pc := 25) C dX8_fits_25 rfl ?_
        first | refine zs_iadd (pc := 26) C dX8_fits_26 (by omega) ?_ | refine zs_iaddF (pc := 26) C dX8_fits_26 (fun z26 hz261 hz262 => ?_)
        refine zVi1 (pc := 27) C dX8_fits_27 v_X8_322 (c_X7_isFitting hX ) (by decide) (by decide) ⟨Nat.zero_le _, Nat.zero_le _⟩ (Nat.le_of_ble_eq_true rfl) (fun x27 G27 l27 u27 hp27 => ?_)
        obtain ⟨hz27, hq27⟩ := hp27
        refine zs_if_eq (tgt := 39) (pc := 30) C dX8_fits_30 (by decide) (fun h30 => ?_) (fun h30 => ?_)
        · skip
          refine zs_iconst (pc := 39) C dX8_fits_39 (by decide) ?_
          refine zs_iorF (pc := 40) C dX8_fits_40 (fun z40 hz401 hz402 => ?_)
          refine zs_istore_n (pc := 41) C dX8_fits_41 (by decide) ?_
          dsimp only [zset, zclr, znone]
          first | refine zs_iinc (pc := 42) C dX8_fits_42 rfl (by decide) (by omega) ?_ | refine zs_iincF (pc := 42) C dX8_fits_42 rfl (by decide) (fun z42 hz421 hz422 => ?_)
          dsimp only [zset, zclr, znone]
          refine zs_goto (tgt := 14) (pc := 45) C dX8_fits_45 (by decide) ?_
          exact zs_wk (ih14 _ _ _ _ (by first | omega | (simp only [zuI_1, zuI_2, zuJ_1, zuJ_2, zuJ_3, zuP_1, zuP_2, zuP_3, zuC_1, zuC_2, reduceIte, Nat.reduceEqDiff, false_and, and_false, true_and, and_true, and_self, or_true, true_or, or_false, false_or]; omega)) (by first | omega | (simp only [zuI_1, zuI_2, zuJ_1, zuJ_2, zuJ_3, zuP_1, zuP_2, zuP_3, zuC_1, zuC_2, reduceIte, Nat.reduceEqDiff, false_and, and_false, true_and, and_true, and_self, or_true, true_or, or_false, false_or]; omega)) (by repeat (first | exact zsn_rf | assumption | refine zsn_C (by decide) ?_ | refine zsn_I (by decide) ?_ | refine zsn_J ?_ | refine zsn_P ?_ | refine zsn_m (by assumption) (by decide) ?_ | refine zsn_c (by assumption) (by decide) ?_)) (by first | omega | (simp only [zuI_1, zuI_2, zuJ_1, zuJ_2, zuJ_3, zuP_1, zuP_2, zuP_3, zuC_1, zuC_2, reduceIte, Nat.reduceEqDiff, false_and, and_false, true_and, and_true, and_self, or_true, true_or, or_false, false_or]; omega))) (zwk_s rfl (zwk_s rfl (zwk_s rfl (zwk_s rfl zwk_0))))
        · skip
          refine zs_iconst (pc := 33) C dX8_fits_33 (by decide) ?_
          refine zs_iload_n (pc := 34) C dX8_fits_34 rfl ?_
          refine zs_ishlF (pc := 35) C dX8_fits_35 (fun z35 hz351 hz352 => ?_)
          refine zs_goto (tgt := 40) (pc := 36) C dX8_fits_36 (by decide) ?_
          refine zs_iorF (pc := 40) C dX8_fits_40 (fun z40 hz401 hz402 => ?_)
          refine zs_istore_n (pc := 41) C dX8_fits_41 (by decide) ?_
          dsimp only [zset, zclr, znone]
          first | refine zs_iinc (pc := 42) C dX8_fits_42 rfl (by decide) (by omega) ?_ | refine zs_iincF (pc := 42) C dX8_fits_42 rfl (by decide) (fun z42 hz421 hz422 => ?_)
          dsimp only [zset, zclr, znone]
          refine zs_goto (tgt := 14) (pc := 45) C dX8_fits_45 (by decide) ?_
          exact zs_wk (ih14 _ _ _ _ (by first | omega | (simp only [zuI_1, zuI_2, zuJ_1, zuJ_2, zuJ_3, zuP_1, zuP_2, zuP_3, zuC_1, zuC_2, reduceIte, Nat.reduceEqDiff, false_and, and_false, true_and, and_true, and_self, or_true, true_or, or_false, false_or]; omega)) (by first | omega | (simp only [zuI_1, zuI_2, zuJ_1, zuJ_2, zuJ_3, zuP_1, zuP_2, zuP_3, zuC_1, zuC_2, reduceIte, Nat.reduceEqDiff, false_and, and_false, true_and, and_true, and_self, or_true, true_or, or_false, false_or]; omega)) (by repeat (first | exact zsn_rf | assumption | refine zsn_C (by decide) ?_ | refine zsn_I (by decide) ?_ | refine zsn_J ?_ | refine zsn_P ?_ | refine zsn_m (by assumption) (by decide) ?_ | refine zsn_c (by assumption) (by decide) ?_)) (by first | omega | (simp only [zuI_1, zuI_2, zuJ_1, zuJ_2, zuJ_3, zuP_1, zuP_2, zuP_3, zuC_1, zuC_2, reduceIte, Nat.reduceEqDiff, false_and, and_false, true_and, and_true, and_self, or_true, true_or, or_false, false_or]; omega))) (zwk_s rfl (zwk_s rfl (zwk_s rfl (zwk_s rfl zwk_0))))
  exact zs_wk (L14 _ _ _ _ _ (by first | omega | (simp only [zuI_1, zuI_2, zuJ_1, zuJ_2, zuJ_3, zuP_1, zuP_2, zuP_3, zuC_1, zuC_2, reduceIte, Nat.reduceEqDiff, false_and, and_false, true_and, and_true, and_self, or_true, true_or, or_false, false_or]; omega)) (by first | omega | (simp only [zuI_1, zuI_2, zuJ_1, zuJ_2, zuJ_3, zuP_1, zuP_2, zuP_3, zuC_1, zuC_2, reduceIte, Nat.reduceEqDiff, false_and, and_false, true_and, and_true, and_self, or_true, true_or, or_false, false_or]; omega)) (by repeat (first | exact zsn_rf | assumption | refine zsn_C (by decide) ?_ | refine zsn_I (by decide) ?_ | refine zsn_J ?_ | refine zsn_P ?_ | refine zsn_m (by assumption) (by decide) ?_ | refine zsn_c (by assumption) (by decide) ?_)) (Nat.lt_succ_self _)) (zwk_s rfl (zwk_s rfl (zwk_s rfl (zwk_s rfl zwk_0))))

set_option maxHeartbeats 4000000 in
set_option maxRecDepth 100000 in
theorem c_X8_undo {l : Launch} {Γ : zΓ} {G : zH} {w : Nat}  (hX : zXs Γ)  : zMet l Γ yX8_undo cX8_undo 2 (some .int) 2 [zr 9 w] G (zpi (fun x G' => zsn [910, 2020, 2030, 2053, 2048, 2049, 2052, 510, 2026, 2027, 2028, 2029, 2031, 2032, 2033, 2034, 2035, 810, 811, 2050, 2051] G G' ∧ True)) := by
  refine zMet_of RX8 hX (by decide) rfl (Nat.le_of_ble_eq_true rfl) ?_
  intro p e s m args below meth c C hr hlk
  show Z p l e (zrm 2) s m args below meth c Γ 2 0 0 (MQ below (zQc Γ (zpi (fun x G' => zsn [910, 2020, 2030, 2053, 2048, 2049, 2052, 510, 2026, 2027, 2028, 2029, 2031, 2032, 2033, 2034, 2035, 810, 811, 2050, 2051] G G' ∧ True))) args s 0 0 (zA Γ)) 0 [some (zr 9 w), none] [] G
  refine zs_aload_n (pc := 0) C dX8_undo_0 rfl ?_
  refine zs_geti (r := 910) (pc := 1) C dX8_undo_1 w_X8_94 f_9_10 rfl (r_910 0) (fun v1 e1 l1 u1 => ?_)
  refine zs_if_gt (tgt := 9) (pc := 4) C dX8_undo_4 (by decide) (fun h4 => ?_) (fun h4 => ?_)
  · skip
    refine zs_aload_n (pc := 9) C dX8_undo_9 rfl ?_
    refine zs_dupa (pc := 10) C dX8_undo_10 ?_
    refine zs_geti (r := 910) (pc := 11) C dX8_undo_11 w_X8_94 f_9_10 rfl (r_910 0) (fun v11 e11 l11 u11 => ?_)
    refine zs_iconst (pc := 14) C dX8_undo_14 (by decide) ?_
    first | refine zs_isub (pc := 15) C dX8_undo_15 (by omega) ?_ | refine zs_isubF (pc := 15) C dX8_undo_15 (fun z15 hz151 hz152 => ?_)
    refine zs_puti (r := 910) (pc := 16) C dX8_undo_16 w_X8_94 f_9_10 rfl (r_910 0) (by omega) ?_
    refine zs_aload_n (pc := 19) C dX8_undo_19 rfl ?_
    refine zs_getf (pc := 20) C dX8_undo_20 w_X8_49 f_9_7 (by decide) ?_
    refine zVv0 (pc := 23) C dX8_undo_23 v_X8_97 (c_X2_forget hX ) (by decide) (by decide) ⟨Nat.zero_le _, Nat.zero_le _⟩ (Nat.le_of_ble_eq_true rfl) (fun G23 hp23 => ?_)
    obtain ⟨hz23, hq23⟩ := hp23
    try simp only [zuI_1, zuI_2, zuJ_1, zuJ_2, zuJ_3, zuP_1, zuP_2, zuP_3, zuC_1, zuC_2, reduceIte, Nat.reduceEqDiff, false_and, and_false, true_and, and_true, and_self, or_true, true_or, or_false, false_or] at hq23
    have tr23_910 := zsm_at hz23 910 w 0 (by decide)
    try simp only [zuI_1, zuI_2, zuJ_1, zuJ_2, zuJ_3, zuP_1, zuP_2, zuP_3, zuC_1, zuC_2, reduceIte, Nat.reduceEqDiff, false_and, and_false, true_and, and_true, and_self, or_true, true_or, or_false, false_or] at tr23_910
    refine zs_aload_n (pc := 26) C dX8_undo_26 rfl ?_
    refine zs_getf (pc := 27) C dX8_undo_27 w_X8_60 f_9_9 (by decide) ?_
    refine zs_aload_n (pc := 30) C dX8_undo_30 rfl ?_
    refine zs_geti (r := 910) (pc := 31) C dX8_undo_31 w_X8_94 f_9_10 rfl (r_910 0) (fun v31 e31 l31 u31 => ?_)
    refine zs_iald (r := 2056) (pc := 34) C dX8_undo_34 a_56 (by decide) (by omega) rfl (r_2056 _) (fun v34 e34 l34 u34 => ?_)
    refine zs_istore_n (pc := 35) C dX8_undo_35 (by decide) ?_
    dsimp only [zset, zclr, znone]
    refine zs_iload_n (pc := 36) C dX8_undo_36 rfl ?_
    refine zs_bipush (pc := 37) C dX8_undo_37 (by decide) (by decide) ?_
    refine zs_icmp_lt (tgt := 56) (pc := 39) C dX8_undo_39 (by decide) (fun h39 => ?_) (fun h39 => ?_)
    · skip
      refine zs_iload_n (pc := 56) C dX8_undo_56 rfl ?_
      refine zs_iconst (pc := 57) C dX8_undo_57 (by decide) ?_
      refine zs_icmp_lt (tgt := 81) (pc := 58) C dX8_undo_58 (by decide) (fun h58 => ?_) (fun h58 => ?_)
      · skip
        refine zs_aload_n (pc := 81) C dX8_undo_81 rfl ?_
        refine zs_getf (pc := 82) C dX8_undo_82 w_X8_34 f_9_4 (by decide) ?_
        refine zVv0 (pc := 85) C dX8_undo_85 v_X8_331 (c_X7_ungrind hX ) (by decide) (by decide) ⟨Nat.zero_le _, Nat.zero_le _⟩ (Nat.le_of_ble_eq_true rfl) (fun G85 hp85 => ?_)
        obtain ⟨hz85, hq85⟩ := hp85
        have tr85_910 := zsm_at hz85 910 w 0 (by decide)
        try simp only [zuI_1, zuI_2, zuJ_1, zuJ_2, zuJ_3, zuP_1, zuP_2, zuP_3, zuC_1, zuC_2, reduceIte, Nat.reduceEqDiff, false_and, and_false, true_and, and_true, and_self, or_true, true_or, or_false, false_or] at tr85_910
        refine zs_aload_n (pc := 88) C dX8_undo_88 rfl ?_
        refine zs_geti (r := 910) (pc := 89) C dX8_undo_89 w_X8_94 f_9_10 rfl (r_910 0) (fun v89 e89 l89 u89 => ?_)
        exact zs_iret (pc := 92) C hr hlk dX8_undo_92 ⟨by repeat (first | exact zsn_rf | assumption | refine zsn_C (by decide) ?_ | refine zsn_I (by decide) ?_ | refine zsn_J ?_ | refine zsn_P ?_ | refine zsn_m (by assumption) (by decide) ?_ | refine zsn_c (by assumption) (by decide) ?_), trivial⟩
      · skip
        refine zs_aload_n (pc := 61) C dX8_undo_61 rfl ?_
        refine zs_getf (pc := 62) C dX8_undo_62 w_X8_34 f_9_4 (by decide) ?_
        refine zs_iload_n (pc := 65) C dX8_undo_65 rfl ?_
        refine zs_iconst (pc := 66) C dX8_undo_66 (by decide) ?_
        first | refine zs_isub (pc := 67) C dX8_undo_67 (by omega) ?_ | refine zs_isubF (pc := 67) C dX8_undo_67 (fun z67 hz671 hz672 => ?_)
        refine zs_iconst (pc := 68) C dX8_undo_68 (by decide) ?_
        first | refine zs_idiv (pc := 69) C dX8_undo_69 (by omega) (by omega) (fun hz691 hz692 => ?_) | refine zs_idivF (pc := 69) C dX8_undo_69 (by omega) (fun z69 hz691 hz692 => ?_)
        refine zs_iload_n (pc := 70) C dX8_undo_70 rfl ?_
        refine zs_iconst (pc := 71) C dX8_undo_71 (by decide) ?_
        first | refine zs_isub (pc := 72) C dX8_undo_72 (by omega) ?_ | refine zs_isubF (pc := 72) C dX8_undo_72 (fun z72 hz721 hz722 => ?_)
        refine zs_iconst (pc := 73) C dX8_undo_73 (by decide) ?_
        first | refine zs_irem (pc := 74) C dX8_undo_74 (by omega) (by omega) (fun hz741 hz742 => ?_) | refine zs_iremF (pc := 74) C dX8_undo_74 (by omega) (fun z74 hz741 hz742 => ?_)
        refine zVv2 (pc := 75) C dX8_undo_75 v_X8_328 (c_X7_unfall hX (by omega) (by omega)) (by decide) (by decide) ⟨Nat.zero_le _, Nat.zero_le _⟩ (Nat.le_of_ble_eq_true rfl) (fun G75 hp75 => ?_)
        obtain ⟨hz75, hq75⟩ := hp75
        have tr75_910 := zsm_at hz75 910 w 0 (by decide)
        try simp only [zuI_1, zuI_2, zuJ_1, zuJ_2, zuJ_3, zuP_1, zuP_2, zuP_3, zuC_1, zuC_2, reduceIte, Nat.reduceEqDiff, false_and, and_false, true_and, and_true, and_self, or_true, true_or, or_false, false_or] at tr75_910
        refine zs_goto (tgt := 88) (pc := 78) C dX8_undo_78 (by decide) ?_
        refine zs_aload_n (pc := 88) C dX8_undo_88 rfl ?_
        refine zs_geti (r := 910) (pc := 89) C dX8_undo_89 w_X8_94 f_9_10 rfl (r_910 0) (fun v89 e89 l89 u89 => ?_)
        exact zs_iret (pc := 92) C hr hlk dX8_undo_92 ⟨by repeat (first | exact zsn_rf | assumption | refine zsn_C (by decide) ?_ | refine zsn_I (by decide) ?_ | refine zsn_J ?_ | refine zsn_P ?_ | refine zsn_m (by assumption) (by decide) ?_ | refine zsn_c (by assumption) (by decide) ?_), trivial⟩
    · skip
      refine zs_aload_n (pc := 42) C dX8_undo_42 rfl ?_
      refine zs_getf (pc := 43) C dX8_undo_43 w_X8_34 f_9_4 (by decide) ?_
      refine zs_iload_n (pc := 46) C dX8_undo_46 rfl ?_
      refine zs_bipush (pc := 47) C dX8_undo_47 (by decide) (by decide) ?_
      first | refine zs_isub (pc := 49) C dX8_undo_49 (by omega) ?_ | refine zs_isubF (pc := 49) C dX8_undo_49 (fun z49 hz491 hz492 => ?_)
      refine zVv1 (pc := 50) C dX8_undo_50 v_X8_325 (c_X7_unbake hX (by omega)) (by decide) (by decide) ⟨Nat.zero_le _, Nat.zero_le _⟩ (Nat.le_of_ble_eq_true rfl) (fun G50 hp50 => ?_)
      obtain ⟨hz50, hq50⟩ := hp50
      have tr50_910 := zsm_at hz50 910 w 0 (by decide)
      try simp only [zuI_1, zuI_2, zuJ_1, zuJ_2, zuJ_3, zuP_1, zuP_2, zuP_3, zuC_1, zuC_2, reduceIte, Nat.reduceEqDiff, false_and, and_false, true_and, and_true, and_self, or_true, true_or, or_false, false_or] at tr50_910
      refine zs_goto (tgt := 88) (pc := 53) C dX8_undo_53 (by decide) ?_
      refine zs_aload_n (pc := 88) C dX8_undo_88 rfl ?_
      refine zs_geti (r := 910) (pc := 89) C dX8_undo_89 w_X8_94 f_9_10 rfl (r_910 0) (fun v89 e89 l89 u89 => ?_)
      exact zs_iret (pc := 92) C hr hlk dX8_undo_92 ⟨by repeat (first | exact zsn_rf | assumption | refine zsn_C (by decide) ?_ | refine zsn_I (by decide) ?_ | refine zsn_J ?_ | refine zsn_P ?_ | refine zsn_m (by assumption) (by decide) ?_ | refine zsn_c (by assumption) (by decide) ?_), trivial⟩
  · skip
    refine zs_iconst (pc := 7) C dX8_undo_7 (by decide) ?_
    exact zs_iret (pc := 8) C hr hlk dX8_undo_8 ⟨by repeat (first | exact zsn_rf | assumption | refine zsn_C (by decide) ?_ | refine zsn_I (by decide) ?_ | refine zsn_J ?_ | refine zsn_P ?_ | refine zsn_m (by assumption) (by decide) ?_ | refine zsn_c (by assumption) (by decide) ?_), trivial⟩

set_option maxHeartbeats 4000000 in
set_option maxRecDepth 100000 in
theorem c_X8_keep {l : Launch} {Γ : zΓ} {G : zH} {w : Nat}  (hX : zXs Γ)  : zMet l Γ yX8_keep cX8_keep 1 (some .int) 3 [zr 9 w] G (zpi (fun x G' => zsn [510, 2026, 2027, 2028, 2029, 2030, 2031, 2032, 2033, 2034, 2035, 2048, 2049, 2050, 2051, 2052, 2053, 809, 810, 811, 812, 813, 911] G G' ∧ True)) := by
  refine zMet_of RX8 hX (by decide) rfl (Nat.le_of_ble_eq_true rfl) ?_
  intro p e s m args below meth c C hr hlk
  show Z p l e (zrm 3) s m args below meth c Γ 1 0 0 (MQ below (zQc Γ (zpi (fun x G' => zsn [510, 2026, 2027, 2028, 2029, 2030, 2031, 2032, 2033, 2034, 2035, 2048, 2049, 2050, 2051, 2052, 2053, 809, 810, 811, 812, 813, 911] G G' ∧ True))) args s 0 0 (zA Γ)) 0 [some (zr 9 w)] [] G
  refine zs_aload_n (pc := 0) C dX8_keep_0 rfl ?_
  refine zs_getf (pc := 1) C dX8_keep_1 w_X8_38 f_9_5 (by decide) ?_
  refine zs_aload_n (pc := 4) C dX8_keep_4 rfl ?_
  refine zs_getf (pc := 5) C dX8_keep_5 w_X8_34 f_9_4 (by decide) ?_
  refine zVv1 (pc := 8) C dX8_keep_8 v_X8_288 (c_X7_copyFrom hX ) (by decide) (by decide) ⟨Nat.zero_le _, Nat.zero_le _⟩ (Nat.le_of_ble_eq_true rfl) (fun G8 hp8 => ?_)
  obtain ⟨hz8, hq8⟩ := hp8
  refine zs_aload_n (pc := 11) C dX8_keep_11 rfl ?_
  refine zs_iconst (pc := 12) C dX8_keep_12 (by decide) ?_
  refine zs_putz (r := 911) (pc := 13) C dX8_keep_13 w_X8_90 f_9_11 rfl (r_911 0) (by omega) (by omega) ?_
  refine zs_aload_n (pc := 16) C dX8_keep_16 rfl ?_
  refine zs_getf (pc := 17) C dX8_keep_17 w_X8_34 f_9_4 (by decide) ?_
  refine zs_geti (r := 809) (pc := 20) C dX8_keep_20 w_X8_221 f_8_9 rfl (r_809 0) (fun v20 e20 l20 u20 => ?_)
  try simp only [zuI_1, zuI_2, zuJ_1, zuJ_2, zuJ_3, zuP_1, zuP_2, zuP_3, zuC_1, zuC_2, reduceIte, Nat.reduceEqDiff, false_and, and_false, true_and, and_true, and_self, or_true, true_or, or_false, false_or] at e20
  exact zs_iret (pc := 23) C hr hlk dX8_keep_23 ⟨by repeat (first | exact zsn_rf | assumption | refine zsn_C (by decide) ?_ | refine zsn_I (by decide) ?_ | refine zsn_J ?_ | refine zsn_P ?_ | refine zsn_m (by assumption) (by decide) ?_ | refine zsn_c (by assumption) (by decide) ?_), trivial⟩

set_option maxHeartbeats 4000000 in
set_option maxRecDepth 100000 in
theorem c_X8_back {l : Launch} {Γ : zΓ} {G : zH} {w : Nat}  (hX : zXs Γ)  : zMet l Γ yX8_back cX8_back 1 (some .int) 3 [zr 9 w] G (zpi (fun x G' => zsn [510, 2026, 2027, 2028, 2029, 2030, 2031, 2032, 2033, 2034, 2035, 2048, 2049, 2050, 2051, 2052, 2053, 809, 810, 811, 812, 813, 910, 2020] G G' ∧ True)) := by
  refine zMet_of RX8 hX (by decide) rfl (Nat.le_of_ble_eq_true rfl) ?_
  intro p e s m args below meth c C hr hlk
  show Z p l e (zrm 3) s m args below meth c Γ 1 0 0 (MQ below (zQc Γ (zpi (fun x G' => zsn [510, 2026, 2027, 2028, 2029, 2030, 2031, 2032, 2033, 2034, 2035, 2048, 2049, 2050, 2051, 2052, 2053, 809, 810, 811, 812, 813, 910, 2020] G G' ∧ True))) args s 0 0 (zA Γ)) 0 [some (zr 9 w)] [] G
  refine zs_aload_n (pc := 0) C dX8_back_0 rfl ?_
  refine zs_getz (r := 911) (pc := 1) C dX8_back_1 w_X8_90 f_9_11 rfl (r_911 0) (fun v1 e1 l1 u1 => ?_)
  refine zs_if_ne (tgt := 9) (pc := 4) C dX8_back_4 (by decide) (fun h4 => ?_) (fun h4 => ?_)
  · skip
    refine zs_aload_n (pc := 9) C dX8_back_9 rfl ?_
    refine zs_getf (pc := 10) C dX8_back_10 w_X8_34 f_9_4 (by decide) ?_
    refine zs_aload_n (pc := 13) C dX8_back_13 rfl ?_
    refine zs_getf (pc := 14) C dX8_back_14 w_X8_38 f_9_5 (by decide) ?_
    refine zVv1 (pc := 17) C dX8_back_17 v_X8_288 (c_X7_copyFrom hX ) (by decide) (by decide) ⟨Nat.zero_le _, Nat.zero_le _⟩ (Nat.le_of_ble_eq_true rfl) (fun G17 hp17 => ?_)
    obtain ⟨hz17, hq17⟩ := hp17
    refine zs_aload_n (pc := 20) C dX8_back_20 rfl ?_
    refine zs_iconst (pc := 21) C dX8_back_21 (by decide) ?_
    refine zs_puti (r := 910) (pc := 22) C dX8_back_22 w_X8_94 f_9_10 rfl (r_910 0) (by omega) ?_
    refine zs_aload_n (pc := 25) C dX8_back_25 rfl ?_
    refine zs_getf (pc := 26) C dX8_back_26 w_X8_49 f_9_7 (by decide) ?_
    refine zVv0 (pc := 29) C dX8_back_29 v_X8_97 (c_X2_forget hX ) (by decide) (by decide) ⟨Nat.zero_le _, Nat.zero_le _⟩ (Nat.le_of_ble_eq_true rfl) (fun G29 hp29 => ?_)
    obtain ⟨hz29, hq29⟩ := hp29
    try simp only [zuI_1, zuI_2, zuJ_1, zuJ_2, zuJ_3, zuP_1, zuP_2, zuP_3, zuC_1, zuC_2, reduceIte, Nat.reduceEqDiff, false_and, and_false, true_and, and_true, and_self, or_true, true_or, or_false, false_or] at hq29
    refine zs_aload_n (pc := 32) C dX8_back_32 rfl ?_
    refine zs_getf (pc := 33) C dX8_back_33 w_X8_34 f_9_4 (by decide) ?_
    refine zs_geti (r := 809) (pc := 36) C dX8_back_36 w_X8_221 f_8_9 rfl (r_809 0) (fun v36 e36 l36 u36 => ?_)
    exact zs_iret (pc := 39) C hr hlk dX8_back_39 ⟨by repeat (first | exact zsn_rf | assumption | refine zsn_C (by decide) ?_ | refine zsn_I (by decide) ?_ | refine zsn_J ?_ | refine zsn_P ?_ | refine zsn_m (by assumption) (by decide) ?_ | refine zsn_c (by assumption) (by decide) ?_), trivial⟩
  · skip
    refine zs_iconst (pc := 7) C dX8_back_7 (by decide) ?_
    exact zs_iret (pc := 8) C hr hlk dX8_back_8 ⟨by repeat (first | exact zsn_rf | assumption | refine zsn_C (by decide) ?_ | refine zsn_I (by decide) ?_ | refine zsn_J ?_ | refine zsn_P ?_ | refine zsn_m (by assumption) (by decide) ?_ | refine zsn_c (by assumption) (by decide) ?_), trivial⟩

set_option maxHeartbeats 4000000 in
set_option maxRecDepth 100000 in
theorem c_X8_count {l : Launch} {Γ : zΓ} {G : zH} {w : Nat} {k : Int} (hX : zXs Γ)  : zMet l Γ yX8_count cX8_count 2 (some .int) 1 [zr 9 w, zi k] G (zpi (fun x G' => G' = G ∧ True)) := by
  refine zMet_of RX8 hX (by decide) rfl (Nat.le_of_ble_eq_true rfl) ?_
  intro p e s m args below meth c C hr hlk
  show Z p l e (zrm 1) s m args below meth c Γ 2 0 0 (MQ below (zQc Γ (zpi (fun x G' => G' = G ∧ True))) args s 0 0 (zA Γ)) 0 [some (zr 9 w), some (zi k)] [] G
  refine zs_loc 1 rfl (fun ha1 hb1 => ?_)
  refine zs_iload_n (pc := 0) C dX8_count_0 rfl ?_
  refine zs_name (fun y1 ey1 => ?_)
  rcases (show y1 = 0 ∨ y1 = 1 ∨ y1 = 2 ∨ y1 = 3 ∨ y1 = 4 ∨ y1 = 5 ∨ y1 = 6 ∨ y1 = 7 ∨ y1 = 8 ∨ y1 = 9 ∨ y1 = 10 ∨ y1 = 11 ∨ (y1 < 0 ∨ 11 < y1) by omega) with h1 | h1 | h1 | h1 | h1 | h1 | h1 | h1 | h1 | h1 | h1 | h1 | h1
  · skip
    refine zs_tabIn (pc := 1) (tgt := 64) C 0 dX8_count_1 h1 (by decide) rfl (by decide) ?_
    refine zs_aload_n (pc := 64) C dX8_count_64 rfl ?_
    refine zs_getd (r := 903) (pc := 65) C dX8_count_65 w_X8_25 f_9_3 (by decide) rfl (fun v65 e65 t65 => ?_)
    refine zs_getf (pc := 68) C dX8_count_68 w_X8_262 f_6_2 (by decide) ?_
    refine zs_iconst (pc := 71) C dX8_count_71 (by decide) ?_
    refine zs_iald (r := 2037) (pc := 72) C dX8_count_72 a_37 (by decide) (by omega) rfl rfl (fun v72 e72 l72 u72 => ?_)
    exact zs_iret (pc := 73) C hr hlk dX8_count_73 ⟨rfl, trivial⟩
  · skip
    refine zs_tabIn (pc := 1) (tgt := 74) C 1 dX8_count_1 h1 (by decide) rfl (by decide) ?_
    refine zs_aload_n (pc := 74) C dX8_count_74 rfl ?_
    refine zs_getd (r := 903) (pc := 75) C dX8_count_75 w_X8_25 f_9_3 (by decide) rfl (fun v75 e75 t75 => ?_)
    refine zs_getf (pc := 78) C dX8_count_78 w_X8_262 f_6_2 (by decide) ?_
    refine zs_iconst (pc := 81) C dX8_count_81 (by decide) ?_
    refine zs_iald (r := 2037) (pc := 82) C dX8_count_82 a_37 (by decide) (by omega) rfl rfl (fun v82 e82 l82 u82 => ?_)
    exact zs_iret (pc := 83) C hr hlk dX8_count_83 ⟨rfl, trivial⟩
  · skip
    refine zs_tabIn (pc := 1) (tgt := 84) C 2 dX8_count_1 h1 (by decide) rfl (by decide) ?_
    refine zs_aload_n (pc := 84) C dX8_count_84 rfl ?_
    refine zs_getd (r := 903) (pc := 85) C dX8_count_85 w_X8_25 f_9_3 (by decide) rfl (fun v85 e85 t85 => ?_)
    refine zs_getf (pc := 88) C dX8_count_88 w_X8_262 f_6_2 (by decide) ?_
    refine zs_iconst (pc := 91) C dX8_count_91 (by decide) ?_
    refine zs_iald (r := 2037) (pc := 92) C dX8_count_92 a_37 (by decide) (by omega) rfl rfl (fun v92 e92 l92 u92 => ?_)
    exact zs_iret (pc := 93) C hr hlk dX8_count_93 ⟨rfl, trivial⟩
  · skip
    refine zs_tabIn (pc := 1) (tgt := 94) C 3 dX8_count_1 h1 (by decide) rfl (by decide) ?_
    refine zs_aload_n (pc := 94) C dX8_count_94 rfl ?_
    refine zs_getd (r := 903) (pc := 95) C dX8_count_95 w_X8_25 f_9_3 (by decide) rfl (fun v95 e95 t95 => ?_)
    refine zs_getf (pc := 98) C dX8_count_98 w_X8_262 f_6_2 (by decide) ?_
    refine zs_iconst (pc := 101) C dX8_count_101 (by decide) ?_
    refine zs_iald (r := 2037) (pc := 102) C dX8_count_102 a_37 (by decide) (by omega) rfl rfl (fun v102 e102 l102 u102 => ?_)
    exact zs_iret (pc := 103) C hr hlk dX8_count_103 ⟨rfl, trivial⟩
  · skip
    refine zs_tabIn (pc := 1) (tgt := 104) C 4 dX8_count_1 h1 (by decide) rfl (by decide) ?_
    refine zs_aload_n (pc := 104) C dX8_count_104 rfl ?_
    refine zs_getd (r := 903) (pc := 105) C dX8_count_105 w_X8_25 f_9_3 (by decide) rfl (fun v105 e105 t105 => ?_)
    refine zs_getf (pc := 108) C dX8_count_108 w_X8_334 f_6_0 (by decide) ?_
    refine zs_geti (r := 207) (pc := 111) C dX8_count_111 w_X8_338 f_2_7 rfl (r_207 0) (fun v111 e111 l111 u111 => ?_)
    exact zs_iret (pc := 114) C hr hlk dX8_count_114 ⟨rfl, trivial⟩
  · skip
    refine zs_tabIn (pc := 1) (tgt := 115) C 5 dX8_count_1 h1 (by decide) rfl (by decide) ?_
    refine zs_aload_n (pc := 115) C dX8_count_115 rfl ?_
    refine zs_getf (pc := 116) C dX8_count_116 w_X8_34 f_9_4 (by decide) ?_
    refine zs_geti (r := 809) (pc := 119) C dX8_count_119 w_X8_221 f_8_9 rfl (r_809 0) (fun v119 e119 l119 u119 => ?_)
    exact zs_iret (pc := 122) C hr hlk dX8_count_122 ⟨rfl, trivial⟩
  · skip
    refine zs_tabIn (pc := 1) (tgt := 123) C 6 dX8_count_1 h1 (by decide) rfl (by decide) ?_
    refine zs_aload_n (pc := 123) C dX8_count_123 rfl ?_
    refine zs_getf (pc := 124) C dX8_count_124 w_X8_34 f_9_4 (by decide) ?_
    refine zs_getf (pc := 127) C dX8_count_127 w_X8_172 f_8_1 (by decide) ?_
    refine zs_geti (r := 510) (pc := 130) C dX8_count_130 w_X8_176 f_5_10 rfl (r_510 0) (fun v130 e130 l130 u130 => ?_)
    exact zs_iret (pc := 133) C hr hlk dX8_count_133 ⟨rfl, trivial⟩
  · skip
    refine zs_tabIn (pc := 1) (tgt := 134) C 7 dX8_count_1 h1 (by decide) rfl (by decide) ?_
    refine zs_aload_n (pc := 134) C dX8_count_134 rfl ?_
    refine zs_getf (pc := 135) C dX8_count_135 w_X8_34 f_9_4 (by decide) ?_
    refine zs_geti (r := 813) (pc := 138) C dX8_count_138 w_X8_319 f_8_13 rfl (r_813 0) (fun v138 e138 l138 u138 => ?_)
    exact zs_iret (pc := 141) C hr hlk dX8_count_141 ⟨rfl, trivial⟩
  · skip
    refine zs_tabIn (pc := 1) (tgt := 142) C 8 dX8_count_1 h1 (by decide) rfl (by decide) ?_
    refine zs_aload_n (pc := 142) C dX8_count_142 rfl ?_
    refine zs_geti (r := 910) (pc := 143) C dX8_count_143 w_X8_94 f_9_10 rfl (r_910 0) (fun v143 e143 l143 u143 => ?_)
    exact zs_iret (pc := 146) C hr hlk dX8_count_146 ⟨rfl, trivial⟩
  · skip
    refine zs_tabIn (pc := 1) (tgt := 147) C 9 dX8_count_1 h1 (by decide) rfl (by decide) ?_
    refine zs_aload_n (pc := 147) C dX8_count_147 rfl ?_
    refine zs_getf (pc := 148) C dX8_count_148 w_X8_34 f_9_4 (by decide) ?_
    refine zs_geti (r := 810) (pc := 151) C dX8_count_151 w_X8_343 f_8_10 rfl (r_810 0) (fun v151 e151 l151 u151 => ?_)
    exact zs_iret (pc := 154) C hr hlk dX8_count_154 ⟨rfl, trivial⟩
  · skip
    refine zs_tabIn (pc := 1) (tgt := 155) C 10 dX8_count_1 h1 (by decide) rfl (by decide) ?_
    refine zs_aload_n (pc := 155) C dX8_count_155 rfl ?_
    refine zs_getf (pc := 156) C dX8_count_156 w_X8_34 f_9_4 (by decide) ?_
    refine zs_geti (r := 811) (pc := 159) C dX8_count_159 w_X8_346 f_8_11 rfl (r_811 0) (fun v159 e159 l159 u159 => ?_)
    exact zs_iret (pc := 162) C hr hlk dX8_count_162 ⟨rfl, trivial⟩
  · skip
    refine zs_tabIn (pc := 1) (tgt := 163) C 11 dX8_count_1 h1 (by decide) rfl (by decide) ?_
    refine zs_aload_n (pc := 163) C dX8_count_163 rfl ?_
    refine zs_getf (pc := 164) C dX8_count_164 w_X8_34 f_9_4 (by decide) ?_
    refine zs_getf (pc := 167) C dX8_count_167 w_X8_172 f_8_1 (by decide) ?_
    refine zs_iconst (pc := 170) C dX8_count_170 (by decide) ?_
    refine zVip1 (pc := 171) C dX8_count_171 v_X8_218 (c_X4_flourFrom hX ) (by decide) (by decide) ⟨Nat.zero_le _, Nat.zero_le _⟩ (Nat.le_of_ble_eq_true rfl) (fun x171 l171 u171 hp171 => ?_)
    have hq171 := hp171
    exact zs_iret (pc := 174) C hr hlk dX8_count_174 ⟨rfl, trivial⟩
  · skip
    refine zs_tabOut (tgt := 175) (pc := 1) C dX8_count_1 h1 (by decide) ?_
    refine zs_iconst (pc := 175) C dX8_count_175 (by decide) ?_
    exact zs_iret (pc := 176) C hr hlk dX8_count_176 ⟨rfl, trivial⟩
