section
set_option maxHeartbeats 4000000 in
set_option maxRecDepth 100000 in
theorem c_X8_isOpen {l : Launch} {Γ : zΓ} {G : zH} {w : Nat} {p0 : Int} (hX : zXs Γ)  : zMet l Γ yX8_isOpen cX8_isOpen 2 (some .boolean) 1 [zr 9 w, zi p0] G (zpi (fun x G' => G' = G ∧ ((x = 0 ∨ x = 1) ∧ (x = 1 → 0 ≤ p0 ∧ p0 ≤ 4)))) := by
  refine zMet_of RX8 hX (by decide) rfl (Nat.le_of_ble_eq_true rfl) ?_
  intro p e s m args below meth c C hr hlk
  show Z p l e (zrm 1) s m args below meth c Γ 2 0 0 (MQ below (zQc Γ (zpi (fun x G' => G' = G ∧ ((x = 0 ∨ x = 1) ∧ (x = 1 → 0 ≤ p0 ∧ p0 ≤ 4))))) args s 0 0 (zA Γ)) 0 [some (zr 9 w), some (zi p0)] [] G
  refine zs_loc 1 rfl (fun ha1 hb1 => ?_)
  refine zs_aload_n (pc := 0) C dX8_isOpen_0 rfl ?_
  refine zs_getd (r := 903) (pc := 1) C dX8_isOpen_1 w_X8_25 f_9_3 (by decide) rfl (fun v1 e1 t1 => ?_)
  refine zs_iconst (pc := 4) C dX8_isOpen_4 (by decide) ?_
  refine zs_iload_n (pc := 5) C dX8_isOpen_5 rfl ?_
  refine zVip2 (pc := 6) C dX8_isOpen_6 v_X8_104 (c_X5_has hX (by omega)) (by decide) (by decide) ⟨Nat.zero_le _, Nat.zero_le _⟩ (Nat.le_of_ble_eq_true rfl) (fun x6 l6 u6 hp6 => ?_)
  have hq6 := hp6
  refine zs_if_eq (tgt := 27) (pc := 9) C dX8_isOpen_9 (by decide) (fun h9 => ?_) (fun h9 => ?_)
  · skip
    refine zs_iconst (pc := 27) C dX8_isOpen_27 (by decide) ?_
    exact zs_zret (pc := 28) C hr hlk dX8_isOpen_28 (by omega) ⟨rfl, by first | omega | (simp only [zuI_1, zuI_2, zuJ_1, zuJ_2, zuJ_3, zuP_1, zuP_2, zuP_3, zuC_1, zuC_2, reduceIte, Nat.reduceEqDiff, false_and, and_false, true_and, and_true, and_self, or_true, true_or, or_false, false_or]; omega)⟩
  · skip
    refine zs_aload_n (pc := 12) C dX8_isOpen_12 rfl ?_
    refine zs_getf (pc := 13) C dX8_isOpen_13 w_X8_34 f_9_4 (by decide) ?_
    refine zs_iload_n (pc := 16) C dX8_isOpen_16 rfl ?_
    refine zVip1 (pc := 17) C dX8_isOpen_17 v_X8_230 (c_X7_isBaked hX (by omega)) (by decide) (by decide) ⟨Nat.zero_le _, Nat.zero_le _⟩ (Nat.le_of_ble_eq_true rfl) (fun x17 l17 u17 hp17 => ?_)
    have hq17 := hp17
    refine zs_if_ne (tgt := 27) (pc := 20) C dX8_isOpen_20 (by decide) (fun h20 => ?_) (fun h20 => ?_)
    · skip
      refine zs_iconst (pc := 27) C dX8_isOpen_27 (by decide) ?_
      exact zs_zret (pc := 28) C hr hlk dX8_isOpen_28 (by omega) ⟨rfl, by first | omega | (simp only [zuI_1, zuI_2, zuJ_1, zuJ_2, zuJ_3, zuP_1, zuP_2, zuP_3, zuC_1, zuC_2, reduceIte, Nat.reduceEqDiff, false_and, and_false, true_and, and_true, and_self, or_true, true_or, or_false, false_or]; omega)⟩
    · skip
      refine zs_iconst (pc := 23) C dX8_isOpen_23 (by decide) ?_
      refine zs_goto (tgt := 28) (pc := 24) C dX8_isOpen_24 (by decide) ?_
      exact zs_zret (pc := 28) C hr hlk dX8_isOpen_28 (by omega) ⟨rfl, by first | omega | (simp only [zuI_1, zuI_2, zuJ_1, zuJ_2, zuJ_3, zuP_1, zuP_2, zuP_3, zuC_1, zuC_2, reduceIte, Nat.reduceEqDiff, false_and, and_false, true_and, and_true, and_self, or_true, true_or, or_false, false_or]; omega)⟩

set_option maxHeartbeats 4000000 in
set_option maxRecDepth 100000 in
theorem c_X8_commonDivisor {l : Launch} {Γ : zΓ} {G : zH} {a b : Int} (hX : zXs Γ)  : zMet l Γ yX8_commonDivisor cX8_commonDivisor 6 (some .int) 0 [zi a, zi b] G (zpi (fun x G' => G' = G ∧ True)) := by
  refine zMet_of RX8 hX (by decide) rfl (Nat.le_of_ble_eq_true rfl) ?_
  intro p e s m args below meth c C hr hlk
  show Z p l e (zrm 0) s m args below meth c Γ 6 0 0 (MQ below (zQc Γ (zpi (fun x G' => G' = G ∧ True))) args s 0 0 (zA Γ)) 0 [some (zi a), some (zi b), none, none, none, none] [] G
  refine zs_loc 0 rfl (fun ha0 hb0 => ?_)
  refine zs_loc 1 rfl (fun ha1 hb1 => ?_)
  refine zs_iload_n (pc := 0) C dX8_commonDivisor_0 rfl ?_
  refine zs_istore_n (pc := 1) C dX8_commonDivisor_1 (by decide) ?_
  dsimp only [zset, zclr, znone]
  refine zs_iload_n (pc := 2) C dX8_commonDivisor_2 rfl ?_
  refine zs_istore_n (pc := 3) C dX8_commonDivisor_3 (by decide) ?_
  dsimp only [zset, zclr, znone]
  refine zs_iconst (pc := 4) C dX8_commonDivisor_4 (by decide) ?_
  refine zs_istore (pc := 5) C dX8_commonDivisor_5 (by decide) ?_
  dsimp only [zset, zclr, znone]
  have L7 : ∀ (nn : Nat) (x2 x3 x4 : Int), (0 ≤ x4 ∧ x4 ≤ 64) → (64 - x4).toNat < nn → Z p l e (zrm 0) s m args below meth c Γ 6 0 0 (MQ below (zQc Γ (zpi (fun x G' => G' = G ∧ True))) args s 0 0 (zA Γ)) 7 [some (zi a), some (zi b), some (zi x2), some (zi x3), some (zi x4), none] [] G := by
    intro nn
    induction nn with
    | zero => intro x2 x3 x4 h7_0 hm; exact absurd hm (Nat.not_lt_zero _)
    | succ nn ih7 =>
      intro x2 x3 x4 h7_0 hm7
      refine zs_iload (pc := 7) C dX8_commonDivisor_7 rfl ?_
      refine zs_bipush (pc := 9) C dX8_commonDivisor_9 (by decide) (by decide) ?_
      refine zs_icmp_ge (tgt := 34) (pc := 11) C dX8_commonDivisor_11 (by decide) (fun h11 => ?_) (fun h11 => ?_)
      · skip
        refine zs_iload_n (pc := 34) C dX8_commonDivisor_34 rfl ?_
        exact zs_iret (pc := 35) C hr hlk dX8_commonDivisor_35 ⟨rfl, trivial⟩
      · skip
        refine zs_iload_n (pc := 14) C dX8_commonDivisor_14 rfl ?_
        refine zs_if_le (tgt := 34) (pc := 15) C dX8_commonDivisor_15 (by decide) (fun h15 => ?_) (fun h15 => ?_)
        · skip
          refine zs_iload_n (pc := 34) C dX8_commonDivisor_34 rfl ?_
          exact zs_iret (pc := 35) C hr hlk dX8_commonDivisor_35 ⟨rfl, trivial⟩
        · skip
          refine zs_iload_n (pc := 18) C dX8_commonDivisor_18 rfl ?_
          refine zs_iload_n (pc := 19) C dX8_commonDivisor_19 rfl ?_
          first | refine zs_irem (pc := 20) C dX8_commonDivisor_20 (by omega) (by omega) (fun hz201 hz202 => ?_) | refine zs_iremF (pc := 20) C dX8_commonDivisor_20 (by omega) (fun z20 hz201 hz202 => ?_)
          refine zs_istore (pc := 21) C dX8_commonDivisor_21 (by decide) ?_
          dsimp only [zset, zclr, znone]
          refine zs_iload_n (pc := 23) C dX8_commonDivisor_23 rfl ?_
          refine zs_istore_n (pc := 24) C dX8_commonDivisor_24 (by decide) ?_
          dsimp only [zset, zclr, znone]
          refine zs_iload (pc := 25) C dX8_commonDivisor_25 rfl ?_
          refine zs_istore_n (pc := 27) C dX8_commonDivisor_27 (by decide) ?_
          dsimp only [zset, zclr, znone]
          first | refine zs_iinc (pc := 28) C dX8_commonDivisor_28 rfl (by decide) (by omega) ?_ | refine zs_iincF (pc := 28) C dX8_commonDivisor_28 rfl (by decide) (fun z28 hz281 hz282 => ?_)
          dsimp only [zset, zclr, znone]
          refine zs_goto (tgt := 7) (pc := 31) C dX8_commonDivisor_31 (by decide) ?_
          exact zs_wk (ih7 _ _ _ (by first | omega | (simp only [zuI_1, zuI_2, zuJ_1, zuJ_2, zuJ_3, zuP_1, zuP_2, zuP_3, zuC_1, zuC_2, reduceIte, Nat.reduceEqDiff, false_and, and_false, true_and, and_true, and_self, or_true, true_or, or_false, false_or]; omega)) (by first | omega | (simp only [zuI_1, zuI_2, zuJ_1, zuJ_2, zuJ_3, zuP_1, zuP_2, zuP_3, zuC_1, zuC_2, reduceIte, Nat.reduceEqDiff, false_and, and_false, true_and, and_true, and_self, or_true, true_or, or_false, false_or]; omega))) (zwk_s rfl (zwk_s rfl (zwk_s rfl (zwk_s rfl (zwk_s rfl (zwk_n zwk_0))))))
  exact zs_wk (L7 _ _ _ _ (by first | omega | (simp only [zuI_1, zuI_2, zuJ_1, zuJ_2, zuJ_3, zuP_1, zuP_2, zuP_3, zuC_1, zuC_2, reduceIte, Nat.reduceEqDiff, false_and, and_false, true_and, and_true, and_self, or_true, true_or, or_false, false_or]; omega)) (Nat.lt_succ_self _)) (zwk_s rfl (zwk_s rfl (zwk_s rfl (zwk_s rfl (zwk_s rfl (zwk_n zwk_0))))))

set_option maxHeartbeats 4000000 in
set_option maxRecDepth 100000 in
theorem c_X8_oddsOfLie {l : Launch} {Γ : zΓ} {G : zH} {w : Nat} {a b q k : Int} (hX : zXs Γ) (ha : 0 ≤ a ∧ a < 60) : zMet l Γ yX8_oddsOfLie cX8_oddsOfLie 9 (some .int) 1 [zr 9 w, zi a, zi b, zi q, zi k] G (zpi (fun x G' => G' = G ∧ True)) := by
  refine zMet_of RX8 hX (by decide) rfl (Nat.le_of_ble_eq_true rfl) ?_
  intro p e s m args below meth c C hr hlk
  show Z p l e (zrm 1) s m args below meth c Γ 9 0 0 (MQ below (zQc Γ (zpi (fun x G' => G' = G ∧ True))) args s 0 0 (zA Γ)) 0 [some (zr 9 w), some (zi a), some (zi b), some (zi q), some (zi k), none, none, none, none] [] G
  refine zs_loc 1 rfl (fun ha1 hb1 => ?_)
  refine zs_loc 2 rfl (fun ha2 hb2 => ?_)
  refine zs_loc 3 rfl (fun ha3 hb3 => ?_)
  refine zs_loc 4 rfl (fun ha4 hb4 => ?_)
  refine zs_aload_n (pc := 0) C dX8_oddsOfLie_0 rfl ?_
  refine zs_getd (r := 903) (pc := 1) C dX8_oddsOfLie_1 w_X8_25 f_9_3 (by decide) rfl (fun v1 e1 t1 => ?_)
  refine zs_getf (pc := 4) C dX8_oddsOfLie_4 w_X8_115 f_6_4 (by decide) ?_
  refine zs_aload_n (pc := 7) C dX8_oddsOfLie_7 rfl ?_
  refine zs_getf (pc := 8) C dX8_oddsOfLie_8 w_X8_34 f_9_4 (by decide) ?_
  refine zs_getf (pc := 11) C dX8_oddsOfLie_11 w_X8_172 f_8_1 (by decide) ?_
  refine zs_getf (pc := 14) C dX8_oddsOfLie_14 w_X8_200 f_5_0 (by decide) ?_
  refine zs_iload_n (pc := 17) C dX8_oddsOfLie_17 rfl ?_
  refine zs_iald (r := 2026) (pc := 18) C dX8_oddsOfLie_18 a_26 (by decide) (by omega) rfl (r_2026 _) (fun v18 e18 l18 u18 => ?_)
  refine zs_iald (r := 2039) (pc := 19) C dX8_oddsOfLie_19 a_39 (by decide) (by omega) rfl (r_2039 _) (fun v19 e19 l19 u19 => ?_)
  refine zs_istore (pc := 20) C dX8_oddsOfLie_20 (by decide) ?_
  dsimp only [zset, zclr, znone]
  refine zs_iload_n (pc := 22) C dX8_oddsOfLie_22 rfl ?_
  refine zSip1 (pc := 23) C dX8_oddsOfLie_23 s_X8_273 (c_J6_bitCount_0f7a4 hX ) (by decide) ⟨Nat.zero_le _, Nat.zero_le _⟩ (Nat.le_of_ble_eq_true rfl) (fun x23 l23 u23 hp23 => ?_)
  have hq23 := hp23
  refine zs_bipush (pc := 26) C dX8_oddsOfLie_26 (by decide) (by decide) ?_
  refine zs_iload (pc := 28) C dX8_oddsOfLie_28 rfl ?_
  first | refine zs_isub (pc := 30) C dX8_oddsOfLie_30 (by omega) ?_ | refine zs_isubF (pc := 30) C dX8_oddsOfLie_30 (fun z30 hz301 hz302 => ?_)
  first | refine zs_imul (pc := 31) C dX8_oddsOfLie_31 (by omega) ?_ | refine zs_imulF (pc := 31) C dX8_oddsOfLie_31 (fun z31 hz311 hz312 => ?_)
  refine zs_istore (pc := 32) C dX8_oddsOfLie_32 (by decide) ?_
  dsimp only [zset, zclr, znone]
  refine zs_iload (pc := 34) C dX8_oddsOfLie_34 rfl ?_
  refine zs_iload_n (pc := 36) C dX8_oddsOfLie_36 rfl ?_
  refine zSip1 (pc := 37) C dX8_oddsOfLie_37 s_X8_273 (c_J6_bitCount_0f7a4 hX ) (by decide) ⟨Nat.zero_le _, Nat.zero_le _⟩ (Nat.le_of_ble_eq_true rfl) (fun x37 l37 u37 hp37 => ?_)
  have hq37 := hp37
  refine zs_iload (pc := 40) C dX8_oddsOfLie_40 rfl ?_
  first | refine zs_imul (pc := 42) C dX8_oddsOfLie_42 (by omega) ?_ | refine zs_imulF (pc := 42) C dX8_oddsOfLie_42 (fun z42 hz421 hz422 => ?_)
  first | refine zs_iadd (pc := 43) C dX8_oddsOfLie_43 (by omega) ?_ | refine zs_iaddF (pc := 43) C dX8_oddsOfLie_43 (fun z43 hz431 hz432 => ?_)
  refine zs_istore (pc := 44) C dX8_oddsOfLie_44 (by decide) ?_
  dsimp only [zset, zclr, znone]
  refine zs_iload (pc := 46) C dX8_oddsOfLie_46 rfl ?_
  refine zs_iload (pc := 48) C dX8_oddsOfLie_48 rfl ?_
  refine zSip2 (pc := 50) C dX8_oddsOfLie_50 s_X8_278 (c_X8_commonDivisor hX ) (by decide) ⟨Nat.zero_le _, Nat.zero_le _⟩ (Nat.le_of_ble_eq_true rfl) (fun x50 l50 u50 hp50 => ?_)
  have hq50 := hp50
  refine zs_istore (pc := 53) C dX8_oddsOfLie_53 (by decide) ?_
  dsimp only [zset, zclr, znone]
  refine zs_iload (pc := 55) C dX8_oddsOfLie_55 rfl ?_
  refine zs_if_ne (tgt := 71) (pc := 57) C dX8_oddsOfLie_57 (by decide) (fun h57 => ?_) (fun h57 => ?_)
  · skip
    refine zs_iload (pc := 71) C dX8_oddsOfLie_71 rfl ?_
    refine zs_if_eq (tgt := 81) (pc := 73) C dX8_oddsOfLie_73 (by decide) (fun h73 => ?_) (fun h73 => ?_)
    · skip
      refine zs_iload (pc := 81) C dX8_oddsOfLie_81 rfl ?_
      refine zs_iload (pc := 83) C dX8_oddsOfLie_83 rfl ?_
      first | refine zs_idiv (pc := 85) C dX8_oddsOfLie_85 (by omega) (by omega) (fun hz851 hz852 => ?_) | refine zs_idivF (pc := 85) C dX8_oddsOfLie_85 (by omega) (fun z85 hz851 hz852 => ?_)
      exact zs_iret (pc := 86) C hr hlk dX8_oddsOfLie_86 ⟨rfl, trivial⟩
    · skip
      refine zs_iload (pc := 76) C dX8_oddsOfLie_76 rfl ?_
      refine zs_goto (tgt := 83) (pc := 78) C dX8_oddsOfLie_78 (by decide) ?_
      refine zs_iload (pc := 83) C dX8_oddsOfLie_83 rfl ?_
      first | refine zs_idiv (pc := 85) C dX8_oddsOfLie_85 (by omega) (by omega) (fun hz851 hz852 => ?_) | refine zs_idivF (pc := 85) C dX8_oddsOfLie_85 (by omega) (fun z85 hz851 hz852 => ?_)
      exact zs_iret (pc := 86) C hr hlk dX8_oddsOfLie_86 ⟨rfl, trivial⟩
  · skip
    refine zs_iload (pc := 60) C dX8_oddsOfLie_60 rfl ?_
    refine zs_if_eq (tgt := 69) (pc := 62) C dX8_oddsOfLie_62 (by decide) (fun h62 => ?_) (fun h62 => ?_)
    · skip
      refine zs_iconst (pc := 69) C dX8_oddsOfLie_69 (by decide) ?_
      exact zs_iret (pc := 70) C hr hlk dX8_oddsOfLie_70 ⟨rfl, trivial⟩
    · skip
      refine zs_iconst (pc := 65) C dX8_oddsOfLie_65 (by decide) ?_
      refine zs_goto (tgt := 70) (pc := 66) C dX8_oddsOfLie_66 (by decide) ?_
      exact zs_iret (pc := 70) C hr hlk dX8_oddsOfLie_70 ⟨rfl, trivial⟩

set_option maxHeartbeats 4000000 in
set_option maxRecDepth 100000 in
theorem c_X8_isRow {l : Launch} {Γ : zΓ} {G : zH} {w : Nat} {a b : Int} (hX : zXs Γ) (ha : 1 ≤ a ∧ a ≤ 10) : zMet l Γ yX8_isRow cX8_isRow 4 (some .boolean) 1 [zr 9 w, zi a, zi b] G (zpi (fun x G' => G' = G ∧ (x = 0 ∨ x = 1))) := by
  refine zMet_of RX8 hX (by decide) rfl (Nat.le_of_ble_eq_true rfl) ?_
  intro p e s m args below meth c C hr hlk
  show Z p l e (zrm 1) s m args below meth c Γ 4 0 0 (MQ below (zQc Γ (zpi (fun x G' => G' = G ∧ (x = 0 ∨ x = 1)))) args s 0 0 (zA Γ)) 0 [some (zr 9 w), some (zi a), some (zi b), none] [] G
  refine zs_loc 1 rfl (fun ha1 hb1 => ?_)
  refine zs_loc 2 rfl (fun ha2 hb2 => ?_)
  refine zs_iconst (pc := 0) C dX8_isRow_0 (by decide) ?_
  refine zs_istore_n (pc := 1) C dX8_isRow_1 (by decide) ?_
  dsimp only [zset, zclr, znone]
  have L2 : ∀ (nn : Nat) (x3 : Int), (0 ≤ x3 ∧ x3 ≤ 10) → (10 - x3).toNat < nn → Z p l e (zrm 1) s m args below meth c Γ 4 0 0 (MQ below (zQc Γ (zpi (fun x G' => G' = G ∧ (x = 0 ∨ x = 1)))) args s 0 0 (zA Γ)) 2 [some (zr 9 w), some (zi a), some (zi b), some (zi x3)] [] G := by
    intro nn
    induction nn with
    | zero => intro x3 h2_0 hm; exact absurd hm (Nat.not_lt_zero _)
    | succ nn ih2 =>
      intro x3 h2_0 hm2
      refine zs_iload_n (pc := 2) C dX8_isRow_2 rfl ?_
      refine zs_iload_n (pc := 3) C dX8_isRow_3 rfl ?_
      refine zs_icmp_ge (tgt := 33) (pc := 4) C dX8_isRow_4 (by decide) (fun h4 => ?_) (fun h4 => ?_)
      · skip
        refine zs_iconst (pc := 33) C dX8_isRow_33 (by decide) ?_
        exact zs_zret (pc := 34) C hr hlk dX8_isRow_34 (by omega) ⟨rfl, by first | omega | (simp only [zuI_1, zuI_2, zuJ_1, zuJ_2, zuJ_3, zuP_1, zuP_2, zuP_3, zuC_1, zuC_2, reduceIte, Nat.reduceEqDiff, false_and, and_false, true_and, and_true, and_self, or_true, true_or, or_false, false_or]; omega)⟩
      · skip
        refine zs_aload_n (pc := 7) C dX8_isRow_7 rfl ?_
        refine zs_getd (r := 903) (pc := 8) C dX8_isRow_8 w_X8_25 f_9_3 (by decide) rfl (fun v8 e8 t8 => ?_)
        refine zs_iconst (pc := 11) C dX8_isRow_11 (by decide) ?_
        refine zs_iload_n (pc := 12) C dX8_isRow_12 rfl ?_
        refine zs_iconst (pc := 13) C dX8_isRow_13 (by decide) ?_
        refine zs_iload_n (pc := 14) C dX8_isRow_14 rfl ?_
        first | refine zs_imul (pc := 15) C dX8_isRow_15 (by omega) ?_ | refine zs_imulF (pc := 15) C dX8_isRow_15 (fun z15 hz151 hz152 => ?_)
        refine zs_ishrF (pc := 16) C dX8_isRow_16 (fun z16 hz161 hz162 => ?_)
        refine zs_iconst (pc := 17) C dX8_isRow_17 (by decide) ?_
        first | refine zs_iand (pc := 18) C 1 dX8_isRow_18 (by decide) (by decide) (fun z18 hz181 hz182 => ?_) | refine zs_iand (pc := 18) C 2 dX8_isRow_18 (by decide) (by decide) (fun z18 hz181 hz182 => ?_) | refine zs_iand (pc := 18) C 8 dX8_isRow_18 (by decide) (by decide) (fun z18 hz181 hz182 => ?_) | refine zs_iandF (pc := 18) C dX8_isRow_18 (fun z18 hz181 hz182 => ?_)
        refine zVip2 (pc := 19) C dX8_isRow_19 v_X8_104 (c_X5_has hX (by omega)) (by decide) (by decide) ⟨Nat.zero_le _, Nat.zero_le _⟩ (Nat.le_of_ble_eq_true rfl) (fun x19 l19 u19 hp19 => ?_)
        have hq19 := hp19
        refine zs_if_ne (tgt := 27) (pc := 22) C dX8_isRow_22 (by decide) (fun h22 => ?_) (fun h22 => ?_)
        · skip
          first | refine zs_iinc (pc := 27) C dX8_isRow_27 rfl (by decide) (by omega) ?_ | refine zs_iincF (pc := 27) C dX8_isRow_27 rfl (by decide) (fun z27 hz271 hz272 => ?_)
          dsimp only [zset, zclr, znone]
          refine zs_goto (tgt := 2) (pc := 30) C dX8_isRow_30 (by decide) ?_
          exact zs_wk (ih2 _ (by first | omega | (simp only [zuI_1, zuI_2, zuJ_1, zuJ_2, zuJ_3, zuP_1, zuP_2, zuP_3, zuC_1, zuC_2, reduceIte, Nat.reduceEqDiff, false_and, and_false, true_and, and_true, and_self, or_true, true_or, or_false, false_or]; omega)) (by first | omega | (simp only [zuI_1, zuI_2, zuJ_1, zuJ_2, zuJ_3, zuP_1, zuP_2, zuP_3, zuC_1, zuC_2, reduceIte, Nat.reduceEqDiff, false_and, and_false, true_and, and_true, and_self, or_true, true_or, or_false, false_or]; omega))) (zwk_s rfl (zwk_s rfl (zwk_s rfl (zwk_s rfl zwk_0))))
        · skip
          refine zs_iconst (pc := 25) C dX8_isRow_25 (by decide) ?_
          exact zs_zret (pc := 26) C hr hlk dX8_isRow_26 (by omega) ⟨rfl, by first | omega | (simp only [zuI_1, zuI_2, zuJ_1, zuJ_2, zuJ_3, zuP_1, zuP_2, zuP_3, zuC_1, zuC_2, reduceIte, Nat.reduceEqDiff, false_and, and_false, true_and, and_true, and_self, or_true, true_or, or_false, false_or]; omega)⟩
  exact zs_wk (L2 _ _ (by first | omega | (simp only [zuI_1, zuI_2, zuJ_1, zuJ_2, zuJ_3, zuP_1, zuP_2, zuP_3, zuC_1, zuC_2, reduceIte, Nat.reduceEqDiff, false_and, and_false, true_and, and_true, and_self, or_true, true_or, or_false, false_or]; omega)) (Nat.lt_succ_self _)) (zwk_s rfl (zwk_s rfl (zwk_s rfl (zwk_s rfl zwk_0))))

set_option maxHeartbeats 4000000 in
set_option maxRecDepth 100000 in
theorem c_X8_greaterSum {l : Launch} {Γ : zΓ} {G : zH} {w : Nat} {a b q : Int} (hX : zXs Γ) (ha : 1 ≤ a ∧ a ≤ 10) : zMet l Γ yX8_greaterSum cX8_greaterSum 8 (some .int) 1 [zr 9 w, zi a, zi b, zi q] G (zpi (fun x G' => G' = G ∧ True)) := by
  refine zMet_of RX8 hX (by decide) rfl (Nat.le_of_ble_eq_true rfl) ?_
  intro p e s m args below meth c C hr hlk
  show Z p l e (zrm 1) s m args below meth c Γ 8 0 0 (MQ below (zQc Γ (zpi (fun x G' => G' = G ∧ True))) args s 0 0 (zA Γ)) 0 [some (zr 9 w), some (zi a), some (zi b), some (zi q), none, none, none, none] [] G
  refine zs_loc 1 rfl (fun ha1 hb1 => ?_)
  refine zs_loc 2 rfl (fun ha2 hb2 => ?_)
  refine zs_loc 3 rfl (fun ha3 hb3 => ?_)
  refine zs_iconst (pc := 0) C dX8_greaterSum_0 (by decide) ?_
  refine zs_istore (pc := 1) C dX8_greaterSum_1 (by decide) ?_
  dsimp only [zset, zclr, znone]
  refine zs_iconst (pc := 3) C dX8_greaterSum_3 (by decide) ?_
  refine zs_istore (pc := 4) C dX8_greaterSum_4 (by decide) ?_
  dsimp only [zset, zclr, znone]
  refine zs_iconst (pc := 6) C dX8_greaterSum_6 (by decide) ?_
  refine zs_istore (pc := 7) C dX8_greaterSum_7 (by decide) ?_
  dsimp only [zset, zclr, znone]
  have L9 : ∀ (nn : Nat) (x4 x5 x6 : Int), (0 ≤ x6 ∧ x6 ≤ 10) → (10 - x6).toNat < nn → Z p l e (zrm 1) s m args below meth c Γ 8 0 0 (MQ below (zQc Γ (zpi (fun x G' => G' = G ∧ True))) args s 0 0 (zA Γ)) 9 [some (zr 9 w), some (zi a), some (zi b), some (zi q), some (zi x4), some (zi x5), some (zi x6), none] [] G := by
    intro nn
    induction nn with
    | zero => intro x4 x5 x6 h9_0 hm; exact absurd hm (Nat.not_lt_zero _)
    | succ nn ih9 =>
      intro x4 x5 x6 h9_0 hm9
      refine zs_iload (pc := 9) C dX8_greaterSum_9 rfl ?_
      refine zs_iload_n (pc := 11) C dX8_greaterSum_11 rfl ?_
      refine zs_icmp_ge (tgt := 65) (pc := 12) C dX8_greaterSum_12 (by decide) (fun h12 => ?_) (fun h12 => ?_)
      · skip
        refine zs_iload (pc := 65) C dX8_greaterSum_65 rfl ?_
        refine zs_iload (pc := 67) C dX8_greaterSum_67 rfl ?_
        refine zs_maxI (pc := 69) C dX8_greaterSum_69 s_X8_301 (by decide) (Nat.le_of_ble_eq_true rfl) ⟨Nat.zero_le _, Nat.zero_le _⟩ (fun z69 hz69 => ?_)
        exact zs_iret (pc := 72) C hr hlk dX8_greaterSum_72 ⟨rfl, trivial⟩
      · skip
        refine zs_aload_n (pc := 15) C dX8_greaterSum_15 rfl ?_
        refine zs_getd (r := 903) (pc := 16) C dX8_greaterSum_16 w_X8_25 f_9_3 (by decide) rfl (fun v16 e16 t16 => ?_)
        refine zs_getf (pc := 19) C dX8_greaterSum_19 w_X8_298 f_6_3 (by decide) ?_
        refine zs_iload_n (pc := 22) C dX8_greaterSum_22 rfl ?_
        refine zs_iconst (pc := 23) C dX8_greaterSum_23 (by decide) ?_
        refine zs_iload (pc := 24) C dX8_greaterSum_24 rfl ?_
        first | refine zs_imul (pc := 26) C dX8_greaterSum_26 (by omega) ?_ | refine zs_imulF (pc := 26) C dX8_greaterSum_26 (fun z26 hz261 hz262 => ?_)
        refine zs_ishrF (pc := 27) C dX8_greaterSum_27 (fun z27 hz271 hz272 => ?_)
        refine zs_iconst (pc := 28) C dX8_greaterSum_28 (by decide) ?_
        first | refine zs_iand (pc := 29) C 1 dX8_greaterSum_29 (by decide) (by decide) (fun z29 hz291 hz292 => ?_) | refine zs_iand (pc := 29) C 2 dX8_greaterSum_29 (by decide) (by decide) (fun z29 hz291 hz292 => ?_) | refine zs_iand (pc := 29) C 8 dX8_greaterSum_29 (by decide) (by decide) (fun z29 hz291 hz292 => ?_) | refine zs_iandF (pc := 29) C dX8_greaterSum_29 (fun z29 hz291 hz292 => ?_)
        refine zs_iald (r := 2038) (pc := 30) C dX8_greaterSum_30 a_38 (by decide) (by omega) rfl (r_2038 _) (fun v30 e30 l30 u30 => ?_)
        refine zs_istore (pc := 31) C dX8_greaterSum_31 (by decide) ?_
        dsimp only [zset, zclr, znone]
        refine zs_iload_n (pc := 33) C dX8_greaterSum_33 rfl ?_
        refine zs_iload (pc := 34) C dX8_greaterSum_34 rfl ?_
        refine zs_ishrF (pc := 36) C dX8_greaterSum_36 (fun z36 hz361 hz362 => ?_)
        refine zs_iconst (pc := 37) C dX8_greaterSum_37 (by decide) ?_
        first | refine zs_iand (pc := 38) C 1 dX8_greaterSum_38 (by decide) (by decide) (fun z38 hz381 hz382 => ?_) | refine zs_iand (pc := 38) C 2 dX8_greaterSum_38 (by decide) (by decide) (fun z38 hz381 hz382 => ?_) | refine zs_iand (pc := 38) C 8 dX8_greaterSum_38 (by decide) (by decide) (fun z38 hz381 hz382 => ?_) | refine zs_iandF (pc := 38) C dX8_greaterSum_38 (fun z38 hz381 hz382 => ?_)
        refine zs_if_ne (tgt := 52) (pc := 39) C dX8_greaterSum_39 (by decide) (fun h39 => ?_) (fun h39 => ?_)
        · skip
          refine zs_iload (pc := 52) C dX8_greaterSum_52 rfl ?_
          refine zs_iload (pc := 54) C dX8_greaterSum_54 rfl ?_
          first | refine zs_iadd (pc := 56) C dX8_greaterSum_56 (by omega) ?_ | refine zs_iaddF (pc := 56) C dX8_greaterSum_56 (fun z56 hz561 hz562 => ?_)
          refine zs_istore (pc := 57) C dX8_greaterSum_57 (by decide) ?_
          dsimp only [zset, zclr, znone]
          first | refine zs_iinc (pc := 59) C dX8_greaterSum_59 rfl (by decide) (by omega) ?_ | refine zs_iincF (pc := 59) C dX8_greaterSum_59 rfl (by decide) (fun z59 hz591 hz592 => ?_)
          dsimp only [zset, zclr, znone]
          refine zs_goto (tgt := 9) (pc := 62) C dX8_greaterSum_62 (by decide) ?_
          exact zs_wk (ih9 _ _ _ (by first | omega | (simp only [zuI_1, zuI_2, zuJ_1, zuJ_2, zuJ_3, zuP_1, zuP_2, zuP_3, zuC_1, zuC_2, reduceIte, Nat.reduceEqDiff, false_and, and_false, true_and, and_true, and_self, or_true, true_or, or_false, false_or]; omega)) (by first | omega | (simp only [zuI_1, zuI_2, zuJ_1, zuJ_2, zuJ_3, zuP_1, zuP_2, zuP_3, zuC_1, zuC_2, reduceIte, Nat.reduceEqDiff, false_and, and_false, true_and, and_true, and_self, or_true, true_or, or_false, false_or]; omega))) (zwk_s rfl (zwk_s rfl (zwk_s rfl (zwk_s rfl (zwk_s rfl (zwk_s rfl (zwk_s rfl (zwk_n zwk_0))))))))
        · skip
          refine zs_iload (pc := 42) C dX8_greaterSum_42 rfl ?_
          refine zs_iload (pc := 44) C dX8_greaterSum_44 rfl ?_
          first | refine zs_iadd (pc := 46) C dX8_greaterSum_46 (by omega) ?_ | refine zs_iaddF (pc := 46) C dX8_greaterSum_46 (fun z46 hz461 hz462 => ?_)
          refine zs_istore (pc := 47) C dX8_greaterSum_47 (by decide) ?_
          dsimp only [zset, zclr, znone]
          refine zs_goto (tgt := 59) (pc := 49) C dX8_greaterSum_49 (by decide) ?_
          first | refine zs_iinc (pc := 59) C dX8_greaterSum_59 rfl (by decide) (by omega) ?_ | refine zs_iincF (pc := 59) C dX8_greaterSum_59 rfl (by decide) (fun z59 hz591 hz592 => ?_)
          dsimp only [zset, zclr, znone]
          refine zs_goto (tgt := 9) (pc := 62) C dX8_greaterSum_62 (by decide) ?_
          exact zs_wk (ih9 _ _ _ (by first | omega | (simp only [zuI_1, zuI_2, zuJ_1, zuJ_2, zuJ_3, zuP_1, zuP_2, zuP_3, zuC_1, zuC_2, reduceIte, Nat.reduceEqDiff, false_and, and_false, true_and, and_true, and_self, or_true, true_or, or_false, false_or]; omega)) (by first | omega | (simp only [zuI_1, zuI_2, zuJ_1, zuJ_2, zuJ_3, zuP_1, zuP_2, zuP_3, zuC_1, zuC_2, reduceIte, Nat.reduceEqDiff, false_and, and_false, true_and, and_true, and_self, or_true, true_or, or_false, false_or]; omega))) (zwk_s rfl (zwk_s rfl (zwk_s rfl (zwk_s rfl (zwk_s rfl (zwk_s rfl (zwk_s rfl (zwk_n zwk_0))))))))
  exact zs_wk (L9 _ _ _ _ (by first | omega | (simp only [zuI_1, zuI_2, zuJ_1, zuJ_2, zuJ_3, zuP_1, zuP_2, zuP_3, zuC_1, zuC_2, reduceIte, Nat.reduceEqDiff, false_and, and_false, true_and, and_true, and_self, or_true, true_or, or_false, false_or]; omega)) (Nat.lt_succ_self _)) (zwk_s rfl (zwk_s rfl (zwk_s rfl (zwk_s rfl (zwk_s rfl (zwk_s rfl (zwk_s rfl (zwk_n zwk_0))))))))

set_option maxHeartbeats 4000000 in
set_option maxRecDepth 100000 in
theorem c_X8_mills {l : Launch} {Γ : zΓ} {G : zH} {w : Nat} {a b k : Int} (hX : zXs Γ)  : zMet l Γ yX8_mills cX8_mills 8 (some .int) 2 [zr 9 w, zi a, zi b, zi k] G (zpi (fun x G' => G' = G ∧ True)) := by
  refine zMet_of RX8 hX (by decide) rfl (Nat.le_of_ble_eq_true rfl) ?_
  intro p e s m args below meth c C hr hlk
  show Z p l e (zrm 2) s m args below meth c Γ 8 0 0 (MQ below (zQc Γ (zpi (fun x G' => G' = G ∧ True))) args s 0 0 (zA Γ)) 0 [some (zr 9 w), some (zi a), some (zi b), some (zi k), none, none, none, none] [] G
  refine zs_loc 1 rfl (fun ha1 hb1 => ?_)
  refine zs_loc 2 rfl (fun ha2 hb2 => ?_)
  refine zs_loc 3 rfl (fun ha3 hb3 => ?_)
  refine zs_iload_n (pc := 0) C dX8_mills_0 rfl ?_
  refine zs_iconst (pc := 1) C dX8_mills_1 (by decide) ?_
  refine zs_icmp_lt (tgt := 29) (pc := 2) C dX8_mills_2 (by decide) (fun h2 => ?_) (fun h2 => ?_)
  · skip
    refine zs_iconst (pc := 29) C dX8_mills_29 (by decide) ?_
    exact zs_iret (pc := 30) C hr hlk dX8_mills_30 ⟨rfl, trivial⟩
  · skip
    refine zs_iload_n (pc := 5) C dX8_mills_5 rfl ?_
    refine zs_bipush (pc := 6) C dX8_mills_6 (by decide) (by decide) ?_
    refine zs_icmp_gt (tgt := 29) (pc := 8) C dX8_mills_8 (by decide) (fun h8 => ?_) (fun h8 => ?_)
    · skip
      refine zs_iconst (pc := 29) C dX8_mills_29 (by decide) ?_
      exact zs_iret (pc := 30) C hr hlk dX8_mills_30 ⟨rfl, trivial⟩
    · skip
      refine zs_iload_n (pc := 11) C dX8_mills_11 rfl ?_
      refine zs_if_lt (tgt := 29) (pc := 12) C dX8_mills_12 (by decide) (fun h12 => ?_) (fun h12 => ?_)
      · skip
        refine zs_iconst (pc := 29) C dX8_mills_29 (by decide) ?_
        exact zs_iret (pc := 30) C hr hlk dX8_mills_30 ⟨rfl, trivial⟩
      · skip
        refine zs_iload_n (pc := 15) C dX8_mills_15 rfl ?_
        refine zs_iconst (pc := 16) C dX8_mills_16 (by decide) ?_
        refine zs_icmp_gt (tgt := 29) (pc := 17) C dX8_mills_17 (by decide) (fun h17 => ?_) (fun h17 => ?_)
        · skip
          refine zs_iconst (pc := 29) C dX8_mills_29 (by decide) ?_
          exact zs_iret (pc := 30) C hr hlk dX8_mills_30 ⟨rfl, trivial⟩
        · skip
          refine zs_aload_n (pc := 20) C dX8_mills_20 rfl ?_
          refine zs_iload_n (pc := 21) C dX8_mills_21 rfl ?_
          refine zs_iload_n (pc := 22) C dX8_mills_22 rfl ?_
          refine zVip2 (pc := 23) C dX8_mills_23 v_X8_291 (c_X8_isRow hX (by omega)) (by decide) (by decide) ⟨Nat.zero_le _, Nat.zero_le _⟩ (Nat.le_of_ble_eq_true rfl) (fun x23 l23 u23 hp23 => ?_)
          have hq23 := hp23
          refine zs_if_ne (tgt := 31) (pc := 26) C dX8_mills_26 (by decide) (fun h26 => ?_) (fun h26 => ?_)
          · skip
            refine zs_ldcw (n := 2147483647) (pc := 31) C dX8_mills_31 q_X8_294 (by decide) (by decide) ?_
            refine zs_istore (pc := 34) C dX8_mills_34 (by decide) ?_
            dsimp only [zset, zclr, znone]
            refine zs_iconst (pc := 36) C dX8_mills_36 (by decide) ?_
            refine zs_istore (pc := 37) C dX8_mills_37 (by decide) ?_
            dsimp only [zset, zclr, znone]
            refine zs_iconst (pc := 39) C dX8_mills_39 (by decide) ?_
            refine zs_istore (pc := 40) C dX8_mills_40 (by decide) ?_
            dsimp only [zset, zclr, znone]
            have L42 : ∀ (nn : Nat) (x4 x5 x6 : Int), (0 ≤ x6 ∧ x6 ≤ 2147483647) → (2147483647 - x6).toNat < nn → Z p l e (zrm 2) s m args below meth c Γ 8 0 0 (MQ below (zQc Γ (zpi (fun x G' => G' = G ∧ True))) args s 0 0 (zA Γ)) 42 [some (zr 9 w), some (zi a), some (zi b), some (zi k), some (zi x4), some (zi x5), some (zi x6), none] [] G := by
              intro nn
              induction nn with
              | zero => intro x4 x5 x6 h42_0 hm; exact absurd hm (Nat.not_lt_zero _)
              | succ nn ih42 =>
                intro x4 x5 x6 h42_0 hm42
                refine zs_iload (pc := 42) C dX8_mills_42 rfl ?_
                refine zs_iconst (pc := 44) C dX8_mills_44 (by decide) ?_
                refine zs_iload_n (pc := 45) C dX8_mills_45 rfl ?_
                refine zs_ishlF (pc := 46) C dX8_mills_46 (fun z46 hz461 hz462 => ?_)
                refine zs_icmp_ge (tgt := 81) (pc := 47) C dX8_mills_47 (by decide) (fun h47 => ?_) (fun h47 => ?_)
                · skip
                  refine zs_iload_n (pc := 81) C dX8_mills_81 rfl ?_
                  refine zs_if_ne (tgt := 90) (pc := 82) C dX8_mills_82 (by decide) (fun h82 => ?_) (fun h82 => ?_)
                  · skip
                    refine zs_iload (pc := 90) C dX8_mills_90 rfl ?_
                    exact zs_iret (pc := 92) C hr hlk dX8_mills_92 ⟨rfl, trivial⟩
                  · skip
                    refine zs_iload (pc := 85) C dX8_mills_85 rfl ?_
                    refine zs_goto (tgt := 92) (pc := 87) C dX8_mills_87 (by decide) ?_
                    exact zs_iret (pc := 92) C hr hlk dX8_mills_92 ⟨rfl, trivial⟩
                · skip
                  refine zs_aload_n (pc := 50) C dX8_mills_50 rfl ?_
                  refine zs_iload_n (pc := 51) C dX8_mills_51 rfl ?_
                  refine zs_iload_n (pc := 52) C dX8_mills_52 rfl ?_
                  refine zs_iload (pc := 53) C dX8_mills_53 rfl ?_
                  refine zVip3 (pc := 55) C dX8_mills_55 v_X8_295 (c_X8_greaterSum hX (by omega)) (by decide) (by decide) ⟨Nat.zero_le _, Nat.zero_le _⟩ (Nat.le_of_ble_eq_true rfl) (fun x55 l55 u55 hp55 => ?_)
                  have hq55 := hp55
                  refine zs_istore (pc := 58) C dX8_mills_58 (by decide) ?_
                  dsimp only [zset, zclr, znone]
                  refine zs_iload (pc := 60) C dX8_mills_60 rfl ?_
                  refine zs_iload (pc := 62) C dX8_mills_62 rfl ?_
                  refine zs_icmp_ge (tgt := 75) (pc := 64) C dX8_mills_64 (by decide) (fun h64 => ?_) (fun h64 => ?_)
                  · skip
                    first | refine zs_iinc (pc := 75) C dX8_mills_75 rfl (by decide) (by omega) ?_ | refine zs_iincF (pc := 75) C dX8_mills_75 rfl (by decide) (fun z75 hz751 hz752 => ?_)
                    dsimp only [zset, zclr, znone]
                    refine zs_goto (tgt := 42) (pc := 78) C dX8_mills_78 (by decide) ?_
                    exact zs_wk (ih42 _ _ _ (by first | omega | (simp only [zuI_1, zuI_2, zuJ_1, zuJ_2, zuJ_3, zuP_1, zuP_2, zuP_3, zuC_1, zuC_2, reduceIte, Nat.reduceEqDiff, false_and, and_false, true_and, and_true, and_self, or_true, true_or, or_false, false_or]; omega)) (by first | omega | (simp only [zuI_1, zuI_2, zuJ_1, zuJ_2, zuJ_3, zuP_1, zuP_2, zuP_3, zuC_1, zuC_2, reduceIte, Nat.reduceEqDiff, false_and, and_false, true_and, and_true, and_self, or_true, true_or, or_false, false_or]; omega))) (zwk_s rfl (zwk_s rfl (zwk_s rfl (zwk_s rfl (zwk_s rfl (zwk_s rfl (zwk_s rfl (zwk_n zwk_0))))))))
                  · skip
                    refine zs_iload (pc := 67) C dX8_mills_67 rfl ?_
                    refine zs_istore (pc := 69) C dX8_mills_69 (by decide) ?_
                    dsimp only [zset, zclr, znone]
                    refine zs_iload (pc := 71) C dX8_mills_71 rfl ?_
                    refine zs_istore (pc := 73) C dX8_mills_73 (by decide) ?_
                    dsimp only [zset, zclr, znone]
                    first | refine zs_iinc (pc := 75) C dX8_mills_75 rfl (by decide) (by omega) ?_ | refine zs_iincF (pc := 75) C dX8_mills_75 rfl (by decide) (fun z75 hz751 hz752 => ?_)
                    dsimp only [zset, zclr, znone]
                    refine zs_goto (tgt := 42) (pc := 78) C dX8_mills_78 (by decide) ?_
                    exact zs_wk (ih42 _ _ _ (by first | omega | (simp only [zuI_1, zuI_2, zuJ_1, zuJ_2, zuJ_3, zuP_1, zuP_2, zuP_3, zuC_1, zuC_2, reduceIte, Nat.reduceEqDiff, false_and, and_false, true_and, and_true, and_self, or_true, true_or, or_false, false_or]; omega)) (by first | omega | (simp only [zuI_1, zuI_2, zuJ_1, zuJ_2, zuJ_3, zuP_1, zuP_2, zuP_3, zuC_1, zuC_2, reduceIte, Nat.reduceEqDiff, false_and, and_false, true_and, and_true, and_self, or_true, true_or, or_false, false_or]; omega))) (zwk_s rfl (zwk_s rfl (zwk_s rfl (zwk_s rfl (zwk_s rfl (zwk_s rfl (zwk_s rfl (zwk_n zwk_0))))))))
            exact zs_wk (L42 _ _ _ _ (by first | omega | (simp only [zuI_1, zuI_2, zuJ_1, zuJ_2, zuJ_3, zuP_1, zuP_2, zuP_3, zuC_1, zuC_2, reduceIte, Nat.reduceEqDiff, false_and, and_false, true_and, and_true, and_self, or_true, true_or, or_false, false_or]; omega)) (Nat.lt_succ_self _)) (zwk_s rfl (zwk_s rfl (zwk_s rfl (zwk_s rfl (zwk_s rfl (zwk_s rfl (zwk_s rfl (zwk_n zwk_0))))))))
          · skip
            refine zs_iconst (pc := 29) C dX8_mills_29 (by decide) ?_
            exact zs_iret (pc := 30) C hr hlk dX8_mills_30 ⟨rfl, trivial⟩

set_option maxHeartbeats 4000000 in
set_option maxRecDepth 100000 in
theorem c_X8_count {l : Launch} {Γ : zΓ} {G : zH} {w : Nat} {k : Int} (hX : zXs Γ)  : zMet l Γ yX8_count cX8_count 2 (some .int) 1 [zr 9 w, zi k] G (zpi (fun x G' => G' = G ∧ True)) := by
  refine zMet_of RX8 hX (by decide) rfl (Nat.le_of_ble_eq_true rfl) ?_
  intro p e s m args below meth c C hr hlk
  show Z p l e (zrm 1) s m args below meth c Γ 2 0 0 (MQ below (zQc Γ (zpi (fun x G' => G' = G ∧ True))) args s 0 0 (zA Γ)) 0 [some (zr 9 w), some (zi k)] [] G
  refine zs_loc 1 rfl (fun ha1 hb1 => ?_)
  refine zs_iload_n (pc := 0) C dX8_count_0 rfl ?_
  refine zs_name (fun y1 ey1 => ?_)
  rcases (show y1 = 0 ∨ y1 = 1 ∨ y1 = 2 ∨ y1 = 3 ∨ y1 = 4 ∨ y1 = 5 ∨ y1 = 6 ∨ y1 = 7 ∨ y1 = 8 ∨ y1 = 9 ∨ y1 = 10 ∨ y1 = 11 ∨ (y1 < 0 ∨ 11 < y1) by omega) with h1 | h1 | h1 | h1 | h1 | h1 | h1 | h1 | h1 | h1 | h1 | h1 | h1
  · skip
    refine zs_tabIn (pc := 1) (tgt := 64) C 0 dX8_count_1 h1 (by decide) rfl (by decide) ?_
    refine zs_aload_n (pc := 64) C dX8_count_64 rfl ?_
    refine zs_getd (r := 903) (pc := 65) C dX8_count_65 w_X8_25 f_9_3 (by decide) rfl (fun v65 e65 t65 => ?_)
    refine zs_getf (pc := 68) C dX8_count_68 w_X8_262 f_6_2 (by decide) ?_
    refine zs_iconst (pc := 71) C dX8_count_71 (by decide) ?_
    refine zs_iald (r := 2037) (pc := 72) C dX8_count_72 a_37 (by decide) (by omega) rfl rfl (fun v72 e72 l72 u72 => ?_)
    exact zs_iret (pc := 73) C hr hlk dX8_count_73 ⟨rfl, trivial⟩
  · skip
    refine zs_tabIn (pc := 1) (tgt := 74) C 1 dX8_count_1 h1 (by decide) rfl (by decide) ?_
    refine zs_aload_n (pc := 74) C dX8_count_74 rfl ?_
    refine zs_getd (r := 903) (pc := 75) C dX8_count_75 w_X8_25 f_9_3 (by decide) rfl (fun v75 e75 t75 => ?_)
    refine zs_getf (pc := 78) C dX8_count_78 w_X8_262 f_6_2 (by decide) ?_
    refine zs_iconst (pc := 81) C dX8_count_81 (by decide) ?_
    refine zs_iald (r := 2037) (pc := 82) C dX8_count_82 a_37 (by decide) (by omega) rfl rfl (fun v82 e82 l82 u82 => ?_)
    exact zs_iret (pc := 83) C hr hlk dX8_count_83 ⟨rfl, trivial⟩
  · skip
    refine zs_tabIn (pc := 1) (tgt := 84) C 2 dX8_count_1 h1 (by decide) rfl (by decide) ?_
    refine zs_aload_n (pc := 84) C dX8_count_84 rfl ?_
    refine zs_getd (r := 903) (pc := 85) C dX8_count_85 w_X8_25 f_9_3 (by decide) rfl (fun v85 e85 t85 => ?_)
    refine zs_getf (pc := 88) C dX8_count_88 w_X8_262 f_6_2 (by decide) ?_
    refine zs_iconst (pc := 91) C dX8_count_91 (by decide) ?_
    refine zs_iald (r := 2037) (pc := 92) C dX8_count_92 a_37 (by decide) (by omega) rfl rfl (fun v92 e92 l92 u92 => ?_)
    exact zs_iret (pc := 93) C hr hlk dX8_count_93 ⟨rfl, trivial⟩
  · skip
    refine zs_tabIn (pc := 1) (tgt := 94) C 3 dX8_count_1 h1 (by decide) rfl (by decide) ?_
    refine zs_aload_n (pc := 94) C dX8_count_94 rfl ?_
    refine zs_getd (r := 903) (pc := 95) C dX8_count_95 w_X8_25 f_9_3 (by decide) rfl (fun v95 e95 t95 => ?_)
    refine zs_getf (pc := 98) C dX8_count_98 w_X8_262 f_6_2 (by decide) ?_
    refine zs_iconst (pc := 101) C dX8_count_101 (by decide) ?_
    refine zs_iald (r := 2037) (pc := 102) C dX8_count_102 a_37 (by decide) (by omega) rfl rfl (fun v102 e102 l102 u102 => ?_)
    exact zs_iret (pc := 103) C hr hlk dX8_count_103 ⟨rfl, trivial⟩
  · skip
    refine zs_tabIn (pc := 1) (tgt := 104) C 4 dX8_count_1 h1 (by decide) rfl (by decide) ?_
    refine zs_aload_n (pc := 104) C dX8_count_104 rfl ?_
    refine zs_getd (r := 903) (pc := 105) C dX8_count_105 w_X8_25 f_9_3 (by decide) rfl (fun v105 e105 t105 => ?_)
    refine zs_getf (pc := 108) C dX8_count_108 w_X8_334 f_6_0 (by decide) ?_
    refine zs_geti (r := 207) (pc := 111) C dX8_count_111 w_X8_338 f_2_7 rfl (r_207 0) (fun v111 e111 l111 u111 => ?_)
    exact zs_iret (pc := 114) C hr hlk dX8_count_114 ⟨rfl, trivial⟩
  · skip
    refine zs_tabIn (pc := 1) (tgt := 115) C 5 dX8_count_1 h1 (by decide) rfl (by decide) ?_
    refine zs_aload_n (pc := 115) C dX8_count_115 rfl ?_
    refine zs_getf (pc := 116) C dX8_count_116 w_X8_34 f_9_4 (by decide) ?_
    refine zs_geti (r := 809) (pc := 119) C dX8_count_119 w_X8_221 f_8_9 rfl (r_809 0) (fun v119 e119 l119 u119 => ?_)
    exact zs_iret (pc := 122) C hr hlk dX8_count_122 ⟨rfl, trivial⟩
  · skip
    refine zs_tabIn (pc := 1) (tgt := 123) C 6 dX8_count_1 h1 (by decide) rfl (by decide) ?_
    refine zs_aload_n (pc := 123) C dX8_count_123 rfl ?_
    refine zs_getf (pc := 124) C dX8_count_124 w_X8_34 f_9_4 (by decide) ?_
    refine zs_getf (pc := 127) C dX8_count_127 w_X8_172 f_8_1 (by decide) ?_
    refine zs_geti (r := 510) (pc := 130) C dX8_count_130 w_X8_176 f_5_10 rfl (r_510 0) (fun v130 e130 l130 u130 => ?_)
    exact zs_iret (pc := 133) C hr hlk dX8_count_133 ⟨rfl, trivial⟩
  · skip
    refine zs_tabIn (pc := 1) (tgt := 134) C 7 dX8_count_1 h1 (by decide) rfl (by decide) ?_
    refine zs_aload_n (pc := 134) C dX8_count_134 rfl ?_
    refine zs_getf (pc := 135) C dX8_count_135 w_X8_34 f_9_4 (by decide) ?_
    refine zs_geti (r := 813) (pc := 138) C dX8_count_138 w_X8_319 f_8_13 rfl (r_813 0) (fun v138 e138 l138 u138 => ?_)
    exact zs_iret (pc := 141) C hr hlk dX8_count_141 ⟨rfl, trivial⟩
  · skip
    refine zs_tabIn (pc := 1) (tgt := 142) C 8 dX8_count_1 h1 (by decide) rfl (by decide) ?_
    refine zs_aload_n (pc := 142) C dX8_count_142 rfl ?_
    refine zs_geti (r := 910) (pc := 143) C dX8_count_143 w_X8_94 f_9_10 rfl (r_910 0) (fun v143 e143 l143 u143 => ?_)
    exact zs_iret (pc := 146) C hr hlk dX8_count_146 ⟨rfl, trivial⟩
  · skip
    refine zs_tabIn (pc := 1) (tgt := 147) C 9 dX8_count_1 h1 (by decide) rfl (by decide) ?_
    refine zs_aload_n (pc := 147) C dX8_count_147 rfl ?_
    refine zs_getf (pc := 148) C dX8_count_148 w_X8_34 f_9_4 (by decide) ?_
    refine zs_geti (r := 810) (pc := 151) C dX8_count_151 w_X8_343 f_8_10 rfl (r_810 0) (fun v151 e151 l151 u151 => ?_)
    exact zs_iret (pc := 154) C hr hlk dX8_count_154 ⟨rfl, trivial⟩
  · skip
    refine zs_tabIn (pc := 1) (tgt := 155) C 10 dX8_count_1 h1 (by decide) rfl (by decide) ?_
    refine zs_aload_n (pc := 155) C dX8_count_155 rfl ?_
    refine zs_getf (pc := 156) C dX8_count_156 w_X8_34 f_9_4 (by decide) ?_
    refine zs_geti (r := 811) (pc := 159) C dX8_count_159 w_X8_346 f_8_11 rfl (r_811 0) (fun v159 e159 l159 u159 => ?_)
    exact zs_iret (pc := 162) C hr hlk dX8_count_162 ⟨rfl, trivial⟩
  · skip
    refine zs_tabIn (pc := 1) (tgt := 163) C 11 dX8_count_1 h1 (by decide) rfl (by decide) ?_
    refine zs_aload_n (pc := 163) C dX8_count_163 rfl ?_
    refine zs_getf (pc := 164) C dX8_count_164 w_X8_34 f_9_4 (by decide) ?_
    refine zs_getf (pc := 167) C dX8_count_167 w_X8_172 f_8_1 (by decide) ?_
    refine zs_iconst (pc := 170) C dX8_count_170 (by decide) ?_
    refine zVip1 (pc := 171) C dX8_count_171 v_X8_218 (c_X4_flourFrom hX ) (by decide) (by decide) ⟨Nat.zero_le _, Nat.zero_le _⟩ (Nat.le_of_ble_eq_true rfl) (fun x171 l171 u171 hp171 => ?_)
    have hq171 := hp171
    exact zs_iret (pc := 174) C hr hlk dX8_count_174 ⟨rfl, trivial⟩
  · skip
    refine zs_tabOut (tgt := 175) (pc := 1) C dX8_count_1 h1 (by decide) ?_
    refine zs_iconst (pc := 175) C dX8_count_175 (by decide) ?_
    exact zs_iret (pc := 176) C hr hlk dX8_count_176 ⟨rfl, trivial⟩
end
section
/-! the reference: what its laws are worth -/
def KOK (k a b : Int) : Prop := (k = 1 → a ≤ 6) ∧ (2 ≤ k → a ≤ 63) ∧ (3 ≤ k → 0 ≤ b)
def MI (Γ : zΓ) (w : Nat) (G : zH) : Prop := (∀ k : Nat, k < 7 → G.1 2071 (Γ.2.1 w 34) k = 1 → 1 ≤ G.1 2073 (Γ.2.1 w 36) k) ∧ ∀ i : Nat, i < 128 → KOK (G.1 2074 (Γ.2.1 w 37) i) (G.1 2075 (Γ.2.1 w 38) i) (G.1 2076 (Γ.2.1 w 39) i)
def MIr (rs : List Nat) : Prop := 2071 ∉ rs ∧ 2073 ∉ rs ∧ 2074 ∉ rs ∧ 2075 ∉ rs ∧ 2076 ∉ rs
theorem MI_sm {Γ : zΓ} {w : Nat} {G G1 : zH} {rs : List Nat} (h : zsm rs G G1) (hr : 2071 ∉ rs ∧ 2073 ∉ rs ∧ 2074 ∉ rs ∧ 2075 ∉ rs ∧ 2076 ∉ rs) (hM : MI Γ w G) : MI Γ w G1 := by
  obtain ⟨h1, h2, h3, h4, h5⟩ := hr
  unfold MI
  rw [h.1 _ h1, h.1 _ h2, h.1 _ h3, h.1 _ h4, h.1 _ h5]
  exact hM
theorem MI_sn {Γ : zΓ} {w : Nat} {G G1 : zH} {rs : List Nat} (h : zsn rs G G1) (hr : 2071 ∉ rs ∧ 2073 ∉ rs ∧ 2074 ∉ rs ∧ 2075 ∉ rs ∧ 2076 ∉ rs) (hM : MI Γ w G) : MI Γ w G1 := by
  obtain ⟨h1, h2, h3, h4, h5⟩ := hr
  unfold MI
  rw [h _ h1, h _ h2, h _ h3, h _ h4, h _ h5]
  exact hM
theorem MI_I {Γ : zΓ} {w : Nat} {G : zH} {r a i : Nat} {x : Int} (hr : r ≠ 2071 ∧ r ≠ 2073 ∧ r ≠ 2074 ∧ r ≠ 2075 ∧ r ≠ 2076) (hM : MI Γ w G) : MI Γ w (zuI G r a i x) :=
  MI_sm (rs := [r]) (zsm_I (by simp) zsm_rf) (by simp; omega) hM
theorem MI_J {Γ : zΓ} {w : Nat} {G : zH} {r a i : Nat} {x : Int} (hM : MI Γ w G) : MI Γ w (zuJ G r a i x) := hM
theorem MI_k {Γ : zΓ} {w : Nat} {G : zH} (hM : MI Γ w G) (i : Int) (h0 : 0 ≤ i) (h : i < 128) : (G.1 2074 (Γ.2.1 w 37) i.toNat = 1 → G.1 2075 (Γ.2.1 w 38) i.toNat ≤ 6) ∧ (2 ≤ G.1 2074 (Γ.2.1 w 37) i.toNat → G.1 2075 (Γ.2.1 w 38) i.toNat ≤ 63) ∧ (3 ≤ G.1 2074 (Γ.2.1 w 37) i.toNat → 0 ≤ G.1 2076 (Γ.2.1 w 39) i.toNat) := hM.2 i.toNat (by omega)
theorem MI_l {Γ : zΓ} {w : Nat} {G : zH} (hM : MI Γ w G) (k : Int) (h0 : 0 ≤ k) (h : k < 7) : G.1 2071 (Γ.2.1 w 34) k.toNat = 1 → 1 ≤ G.1 2073 (Γ.2.1 w 36) k.toNat := hM.1 k.toNat (by omega)
theorem rs_2059 (i : Nat) : (zrg 2059 i).1 ≤ 0 ∧ 99 ≤ (zrg 2059 i).2 ∧ (i = 1 → (zrg 2059 i).1 = 0 ∧ (zrg 2059 i).2 = 99) ∧ (i = 5 → (zrg 2059 i).1 = 0 ∧ (zrg 2059 i).2 = 99) ∧ (i ≠ 1 → i ≠ 5 → (zrg 2059 i).1 = -2147483648 ∧ (zrg 2059 i).2 = 2147483647) := by
  have e : zrg 2059 i = zcl (if i = 1 ∨ i = 5 then (0, 99) else zfull) := rfl
  rw [e]
  by_cases h : i = 1 ∨ i = 5
  · rw [if_pos h]
    simp only [zcl]
    omega
  · rw [if_neg h]
    simp only [zcl, zfull]
    omega
end
section
/-! more rows: exact differences, whole numbers among the longs -/
theorem zl_and (x : Int64) : 0 ≤ (x &&& 2147483647).toInt ∧ (x &&& 2147483647).toInt ≤ 2147483647 := by
  have h : (x &&& 2147483647).toBitVec.toNat ≤ 2147483647 := by
    rw [Int64.toBitVec_and, BitVec.toNat_and]
    exact Nat.and_le_right
  have e : (x &&& 2147483647).toInt = ((x &&& 2147483647).toBitVec.toNat : Int) := BitVec.toInt_eq_toNat_of_lt (by omega)
  omega
theorem zl_div {x y : Int} (hx : 0 ≤ x ∧ x ≤ 9223372036854775807) (hy : 0 < y ∧ y ≤ 9223372036854775807) : Int64.ofInt x / Int64.ofInt y = Int64.ofInt (x / y) := by
  obtain ⟨n, rfl⟩ := Int.eq_ofNat_of_zero_le hx.1
  obtain ⟨k, rfl⟩ := Int.eq_ofNat_of_zero_le (Int.le_of_lt hy.1)
  have h := pk_lDiv (a := n) (b := k) (by omega) (by omega) (by omega)
  rw [← Int.natCast_ediv]
  simpa only [lN, Int64.ofInt_eq_ofNat] using h
theorem zl_rem {x y : Int} (hx : 0 ≤ x ∧ x ≤ 9223372036854775807) (hy : 0 < y ∧ y ≤ 9223372036854775807) : Int64.ofInt x - Int64.ofInt x / Int64.ofInt y * Int64.ofInt y = Int64.ofInt (x % y) := by
  obtain ⟨n, rfl⟩ := Int.eq_ofNat_of_zero_le hx.1
  obtain ⟨k, rfl⟩ := Int.eq_ofNat_of_zero_le (Int.le_of_lt hy.1)
  have h := pk_lRem (a := n) (b := k) (by omega) (by omega) (by omega)
  rw [← Int.natCast_emod]
  simpa only [lN, Int64.ofInt_eq_ofNat] using h
def wr (z : Int) : Int := (z + 2147483648) % 4294967296 - 2147483648
theorem wr_of (z : Int) : Int32.ofInt (wr z) = Int32.ofInt z := by
  apply Int32.toInt_inj.mp
  rw [Int32.toInt_ofInt, Int32.toInt_ofInt]
  unfold wr
  simp only [Int.bmod, Int32.size]
  omega
section Z2
variable {p : Program} {l : Launch} {e : Env} {R : Room} {s : State} {m : MethodId} {args : Array Value} {below : List Frame} {meth : Method} {c : Code} {Γ : zΓ} {cc : ByteArray} {nL : Nat} {own : String} {cells slots : Nat} {Q : State → Prop} {pc : Nat} {ls : List (Option zV)} {st : List zV} {G : zH}
theorem zs_isubE (C : zCx p s m args c Γ cc nL own) {x y : Int} (d : decode cc pc = .ok (.isub, 1)) (kk : Z p l e R s m args below meth c Γ nL cells slots Q (pc + 1) ls (zi (wr (x - y)) :: st) G) : Z p l e R s m args below meth c Γ nL cells slots Q pc ls (zi y :: zi x :: st) G := by
  intro hG hl hs H locs rl hP hS hL
  refine lv_isub C.1 C.2.1 d ?_
  rw [← Int32.ofInt_sub, ← wr_of]
  exact kk hG hl (zs_cons (v := zi (wr (x - y))) ⟨by unfold wr; omega, by unfold wr; omega⟩ (zs_tl (zs_tl hs))) H locs rl hP hS hL
theorem zs_landM (C : zCx p s m args c Γ cc nL own) {x : Int} (d : decode cc pc = .ok (.land, 1)) (kk : ∀ z : Int, 0 ≤ z → z ≤ 2147483647 → Z p l e R s m args below meth c Γ nL cells slots Q (pc + 1) ls (zj z :: st) G) : Z p l e R s m args below meth c Γ nL cells slots Q pc ls (zj 2147483647 :: zj x :: st) G := by
  intro hG hl hs H locs rl hP hS hL
  refine lv_land C.1 C.2.1 d ?_
  have h1 := zl_and (Int64.ofInt x)
  have h := kk _ h1.1 h1.2 hG hl (zs_cons (v := zj (Int64.ofInt x &&& 2147483647).toInt) ⟨by omega, by omega⟩ (zs_tl (zs_tl hs))) H locs rl hP hS hL
  have e9 : zc (zj (Int64.ofInt x &&& 2147483647).toInt) = .long (Int64.ofInt x &&& Int64.ofInt 2147483647) := by
    show Value.long (Int64.ofInt _) = _
    rw [Int64.ofInt_toInt]
    rfl
  rwa [List.map_cons, e9] at h
theorem zs_ldivP (C : zCx p s m args c Γ cc nL own) {x y : Int} (d : decode cc pc = .ok (.ldiv, 1)) (hx : 0 ≤ x) (hy : 0 < y) (kk : 0 ≤ x / y → x / y ≤ x → Z p l e R s m args below meth c Γ nL cells slots Q (pc + 1) ls (zj (x / y) :: st) G) : Z p l e R s m args below meth c Γ nL cells slots Q pc ls (zj y :: zj x :: st) G := by
  intro hG hl hs H locs rl hP hS hL
  have hxk := zs_hd (zs_tl hs)
  have hyk := zs_hd hs
  have h1 : 0 ≤ x / y := Int.ediv_nonneg hx (Int.le_of_lt hy)
  have h2 : x / y ≤ x := Int.ediv_le_self y hx
  refine lv_ldiv C.1 C.2.1 d (fun h => ?_) ?_
  · have := (zl_eq hyk (by omega)).mp (h.trans (show (0 : Int64) = Int64.ofInt 0 from rfl))
    omega
  · rw [zl_div ⟨hx, hxk.2⟩ ⟨hy, hyk.2⟩]
    exact kk h1 h2 hG hl (zs_cons (v := zj (x / y)) ⟨Int.le_trans (by decide) h1, Int.le_trans h2 hxk.2⟩ (zs_tl (zs_tl hs))) H locs rl hP hS hL
theorem zs_lremP (C : zCx p s m args c Γ cc nL own) {x y : Int} (d : decode cc pc = .ok (.lrem, 1)) (hx : 0 ≤ x) (hy : 0 < y) (kk : 0 ≤ x % y → x % y < y → Z p l e R s m args below meth c Γ nL cells slots Q (pc + 1) ls (zj (x % y) :: st) G) : Z p l e R s m args below meth c Γ nL cells slots Q pc ls (zj y :: zj x :: st) G := by
  intro hG hl hs H locs rl hP hS hL
  have hxk := zs_hd (zs_tl hs)
  have hyk := zs_hd hs
  have h1 : 0 ≤ x % y := Int.emod_nonneg x (by omega)
  have h2 : x % y < y := Int.emod_lt_of_pos x hy
  refine lv_lrem C.1 C.2.1 d (fun h => ?_) ?_
  · have := (zl_eq hyk (by omega)).mp (h.trans (show (0 : Int64) = Int64.ofInt 0 from rfl))
    omega
  · rw [zl_rem ⟨hx, hxk.2⟩ ⟨hy, hyk.2⟩]
    exact kk h1 h2 hG hl (zs_cons (v := zj (x % y)) ⟨Int.le_trans (by decide) h1, Int.le_trans (Int.le_of_lt h2) hyk.2⟩ (zs_tl (zs_tl hs))) H locs rl hP hS hL
end Z2
/-! counts and sums over rows of ints -/
def zct (f : Nat → Bool) : Nat → Int
  | 0 => 0
  | n + 1 => zct f n + (if f n then 1 else 0)
theorem zct_0 (f : Nat → Bool) : zct f 0 = 0 := rfl
theorem zct_s (f : Nat → Bool) (n : Nat) : zct f (n + 1) = zct f n + (if f n then 1 else 0) := rfl
theorem zct_le (f : Nat → Bool) : ∀ n, 0 ≤ zct f n ∧ zct f n ≤ n
  | 0 => ⟨Int.le_refl 0, Int.le_refl 0⟩
  | n + 1 => by
    have h := zct_le f n
    rw [zct_s]
    split <;> omega
theorem zct_mono (f : Nat → Bool) {n m : Nat} (h : n ≤ m) : zct f n ≤ zct f m := by
  induction m with
  | zero => rw [show n = 0 by omega]; exact Int.le_refl _
  | succ m ih =>
    rcases Nat.lt_or_ge n (m + 1) with q | q
    · have := ih (by omega)
      rw [zct_s]
      split <;> omega
    · rw [show n = m + 1 by omega]; exact Int.le_refl _
theorem zct_cg {f g : Nat → Bool} : ∀ n, (∀ i, i < n → f i = g i) → zct f n = zct g n
  | 0, _ => rfl
  | n + 1, h => by rw [zct_s, zct_s, zct_cg n (fun i hi => h i (by omega)), h n (by omega)]
/-- the flour of n sacks from base on with a fineness of at least q -/
def zfl (fi ha : Nat → Int) (q : Int) (base : Nat) : Nat → Int
  | 0 => 0
  | n + 1 => zfl fi ha q base n + (if q ≤ fi (base + n) then ha (base + n) else 0)
theorem zfl_s (fi ha : Nat → Int) (q : Int) (base n : Nat) : zfl fi ha q base (n + 1) = zfl fi ha q base n + (if q ≤ fi (base + n) then ha (base + n) else 0) := rfl
theorem zfl_b {fi ha : Nat → Int} {q : Int} {base : Nat} (h : ∀ i, 0 ≤ ha i ∧ ha i ≤ 99) : ∀ n, 0 ≤ zfl fi ha q base n ∧ zfl fi ha q base n ≤ 99 * n
  | 0 => ⟨Int.le_refl 0, Int.le_refl 0⟩
  | n + 1 => by
    have h1 := zfl_b (fi := fi) (q := q) (base := base) h n
    have h2 := h (base + n)
    rw [zfl_s]
    split <;> omega
/-- none has any: none is there -/
theorem zfl_none {fi ha : Nat → Int} {q : Int} {base : Nat} : ∀ n, (∀ k, k < n → ha (base + k) = 0 ∨ fi (base + k) < q) → zfl fi ha q base n = 0
  | 0, _ => rfl
  | n + 1, h => by
    rw [zfl_s, zfl_none n (fun k hk => h k (by omega))]
    have h1 := h n (by omega)
    split <;> omega
/-- some is taken from one of them -/
theorem zfl_upd {fi ha ha' : Nat → Int} {q : Int} {base k : Nat} {x : Int} (h1 : ha' (base + k) = ha (base + k) - x) (h2 : ∀ i, i ≠ base + k → ha' i = ha i) (h3 : q ≤ fi (base + k)) : ∀ n, k < n → zfl fi ha' q base n = zfl fi ha q base n - x
  | 0, h => absurd h (by omega)
  | n + 1, h => by
    rw [zfl_s, zfl_s]
    rcases Nat.lt_or_ge k n with q1 | q1
    · rw [zfl_upd h1 h2 h3 n q1, h2 (base + n) (by omega)]
      omega
    · have e : k = n := by omega
      subst e
      have e2 : zfl fi ha' q base k = zfl fi ha q base k := by
        clear h h3 q1
        have gen : ∀ j, j ≤ k → zfl fi ha' q base j = zfl fi ha q base j := by
          intro j
          induction j with
          | zero => intro _; rfl
          | succ j ih =>
            intro hj
            rw [zfl_s, zfl_s, ih (by omega), h2 (base + j) (by omega)]
        exact gen k (Nat.le_refl k)
      rw [e2, if_pos h3, if_pos h3, h1]
      omega
/-! rows that are counted on -/
def zod (b : Int) (f : Nat → Int) : Nat → Int
  | 0 => 0
  | n + 1 => zod b f n * b + f n
theorem zod5 (f : Nat → Int) : zod 7 f 5 = f 0 * 2401 + f 1 * 343 + f 2 * 49 + f 3 * 7 + f 4 := by
  simp only [zod]
  omega
theorem zod4 (f : Nat → Int) : zod 25 f 4 = f 0 * 15625 + f 1 * 625 + f 2 * 25 + f 3 := by
  simp only [zod]
  omega
theorem zod_up5 {f g : Nat → Int} {k n : Nat} (hk : k < 5) (hf : ∀ i, 0 ≤ f i ∧ f i ≤ 6) (hg : ∀ i, 0 ≤ g i) (h1 : f k < g k) (h2 : ∀ i, i < k → g i = f i) (h3 : ∀ i, n ≤ i → g i = f i ∨ True) : zod 7 f 5 < zod 7 g 5 := by
  rw [zod5, zod5]
  have f0 := hf 0; have f1 := hf 1; have f2 := hf 2; have f3 := hf 3; have f4 := hf 4
  have g0 := hg 0; have g1 := hg 1; have g2 := hg 2; have g3 := hg 3; have g4 := hg 4
  rcases (show k = 0 ∨ k = 1 ∨ k = 2 ∨ k = 3 ∨ k = 4 by omega) with rfl | rfl | rfl | rfl | rfl
  · omega
  · have := h2 0 (by omega); omega
  · have := h2 0 (by omega); have := h2 1 (by omega); omega
  · have := h2 0 (by omega); have := h2 1 (by omega); have := h2 2 (by omega); omega
  · have := h2 0 (by omega); have := h2 1 (by omega); have := h2 2 (by omega); have := h2 3 (by omega); omega
theorem zod_up4 {f g : Nat → Int} {k : Nat} (hk : k < 4) (hf : ∀ i, 0 ≤ f i ∧ f i ≤ 24) (hg : ∀ i, 0 ≤ g i) (h1 : f k < g k) (h2 : ∀ i, i < k → g i = f i) : zod 25 f 4 < zod 25 g 4 := by
  rw [zod4, zod4]
  have f0 := hf 0; have f1 := hf 1; have f2 := hf 2; have f3 := hf 3
  have g0 := hg 0; have g1 := hg 1; have g2 := hg 2; have g3 := hg 3
  rcases (show k = 0 ∨ k = 1 ∨ k = 2 ∨ k = 3 by omega) with rfl | rfl | rfl | rfl
  · omega
  · have := h2 0 (by omega); omega
  · have := h2 0 (by omega); have := h2 1 (by omega); omega
  · have := h2 0 (by omega); have := h2 1 (by omega); have := h2 2 (by omega); omega
end
section
/-! steps of the counts; what is left, as a function -/
def lfz (Γ : zΓ) (w : Nat) (G : zH) (p t : Int) : Int := wr (G.1 2081 (Γ.2.1 w 51) (20 * 0 + 4 * p + t).toNat - G.1 2082 (Γ.2.1 w 52) (20 * 0 + 4 * p + t).toNat)
def lfc (Γ : zΓ) (w : Nat) (G : zH) (p : Int) : Nat → Bool := fun s => decide (lfz Γ w G p (s : Int) = 0)
theorem zct_step {f : Nat → Bool} {x3 x4 v : Int} (h : x3 = zct f x4.toNat) (h0 : 0 ≤ x4) (hf : f x4.toNat = decide (v = 0)) : (v = 0 → x3 + 1 = zct f (x4 + 1).toNat) ∧ (v ≠ 0 → x3 + 0 = zct f (x4 + 1).toNat) := by
  rw [show (x4 + 1).toNat = x4.toNat + 1 by omega, zct_s, ← h, hf]
  constructor
  · intro q
    simp [q]
  · intro q
    simp [q]
theorem lfc_at {Γ : zΓ} {w : Nat} {G G1 : zH} {p t v : Int} (h0 : 0 ≤ t) (h1 : G1.1 2081 = G.1 2081) (h2 : G1.1 2082 = G.1 2082) (hv : v = wr (G1.1 2081 (Γ.2.1 w 51) (20 * 0 + 4 * p + t).toNat - G1.1 2082 (Γ.2.1 w 52) (20 * 0 + 4 * p + t).toNat)) : lfc Γ w G p t.toNat = decide (v = 0) := by
  unfold lfc lfz
  rw [show ((t.toNat : Nat) : Int) = t by omega, hv, h1, h2]
theorem zfl_step {fi ha : Nat → Int} {q b x3 x4 : Int} (h : x3 = zfl fi ha q b.toNat x4.toNat) (hb : 0 ≤ b) (h0 : 0 ≤ x4) : (q ≤ fi (b + x4).toNat → x3 + ha (b + x4).toNat = zfl fi ha q b.toNat (x4 + 1).toNat) ∧ (¬ q ≤ fi (b + x4).toNat → x3 + 0 = zfl fi ha q b.toNat (x4 + 1).toNat) := by
  rw [show (x4 + 1).toNat = x4.toNat + 1 by omega, zfl_s, ← h, show b.toNat + x4.toNat = (b + x4).toNat by omega]
  constructor
  · intro q1
    rw [if_pos q1]
  · intro q1
    rw [if_neg q1]
theorem zuI_ne {G : zH} {r r' a i : Nat} {x : Int} (h : r' ≠ r) : (zuI G r a i x).1 r' = G.1 r' := by
  funext a' i'
  rw [zuI_1, if_neg (fun q : r' = r ∧ a' = a ∧ i' = i => h q.1)]
/-- no sack among the first x5 will do -/
def NB (ha fi : Nat → Int) (q : Int) (B : Nat) (x5 : Int) : Prop := ∀ k : Nat, (k : Int) < x5 → ha (B + k) = 0 ∨ fi (B + k) < q
theorem NB_0 {ha fi : Nat → Int} {q : Int} {B : Nat} : NB ha fi q B 0 := fun k h => absurd h (by omega)
theorem NB_s {ha fi : Nat → Int} {q b x5 : Int} (h : NB ha fi q b.toNat x5) (hb : 0 ≤ b) (h0 : 0 ≤ x5) (hx : ha (b + x5).toNat = 0 ∨ fi (b + x5).toNat < q) : NB ha fi q b.toNat (x5 + 1) := by
  intro k hk
  rcases Int.lt_or_le (k : Int) x5 with q1 | q1
  · exact h k q1
  · rw [show b.toNat + k = (b + x5).toNat by omega]
    exact hx
theorem zuI_fl {G : zH} {a i : Nat} {x : Int} {fi : Nat → Int} {q b : Int} {n : Nat} {j : Int} (hb : 0 ≤ b) (hj : b ≤ j ∧ j < b + n) (hi : i = j.toNat) (h3 : q ≤ fi j.toNat) : zfl fi ((zuI G 2094 a i x).1 2094 a) q b.toNat n = zfl fi (G.1 2094 a) q b.toNat n - (G.1 2094 a i - x) := by
  subst hi
  have e : j.toNat = b.toNat + (j - b).toNat := by omega
  refine zfl_upd (k := (j - b).toNat) ?_ ?_ ?_ n (by omega)
  · rw [← e, zuI_1, if_pos ⟨rfl, rfl, rfl⟩]
    omega
  · intro i hi
    rw [zuI_1, if_neg (fun q => hi (by rw [← e]; exact q.2.2))]
  · rw [← e]
    exact h3
end
