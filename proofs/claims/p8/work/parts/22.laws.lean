set_option maxHeartbeats 4000000 in
set_option maxRecDepth 100000 in
theorem c_X1_isTold {l : Launch} {Γ : zΓ} {G : zH} {w : Nat} {k : Int} (hX : zXs Γ)  : zMet l Γ yX1_isTold cX1_isTold 2 (some .boolean) 0 [zr 2 w, zi k] G (zpi (fun x G' => G' = G ∧ ((x = 0 ∨ x = 1) ∧ (x = 1 → 0 ≤ k ∧ k < 7)))) := by
  refine zMet_of RX1 hX (by decide) rfl (Nat.le_of_ble_eq_true rfl) ?_
  intro p e s m args below meth c C hr hlk
  show Z p l e (zrm 0) s m args below meth c Γ 2 0 0 (MQ below (zQc Γ (zpi (fun x G' => G' = G ∧ ((x = 0 ∨ x = 1) ∧ (x = 1 → 0 ≤ k ∧ k < 7))))) args s 0 0 (zA Γ)) 0 [some (zr 2 w), some (zi k)] [] G
  refine zs_loc 1 rfl (fun ha1 hb1 => ?_)
  refine zs_iload_n (pc := 0) C dX1_isTold_0 rfl ?_
  refine zs_if_lt (tgt := 29) (pc := 1) C dX1_isTold_1 (by decide) (fun h1 => ?_) (fun h1 => ?_)
  · skip
    refine zs_iconst (pc := 29) C dX1_isTold_29 (by decide) ?_
    exact zs_zret (pc := 30) C hr hlk dX1_isTold_30 (by omega) ⟨rfl, by first | omega | (simp only [zuI_1, zuI_2, zuJ_1, zuJ_2, zuJ_3, zuP_1, zuP_2, zuP_3, zuC_1, zuC_2, reduceIte, Nat.reduceEqDiff, false_and, and_false, true_and, and_true, and_self, or_true, true_or, or_false, false_or]; omega)⟩
  · skip
    refine zs_iload_n (pc := 4) C dX1_isTold_4 rfl ?_
    refine zs_bipush (pc := 5) C dX1_isTold_5 (by decide) (by decide) ?_
    refine zs_icmp_ge (tgt := 29) (pc := 7) C dX1_isTold_7 (by decide) (fun h7 => ?_) (fun h7 => ?_)
    · skip
      refine zs_iconst (pc := 29) C dX1_isTold_29 (by decide) ?_
      exact zs_zret (pc := 30) C hr hlk dX1_isTold_30 (by omega) ⟨rfl, by first | omega | (simp only [zuI_1, zuI_2, zuJ_1, zuJ_2, zuJ_3, zuP_1, zuP_2, zuP_3, zuC_1, zuC_2, reduceIte, Nat.reduceEqDiff, false_and, and_false, true_and, and_true, and_self, or_true, true_or, or_false, false_or]; omega)⟩
    · skip
      refine zs_aload_n (pc := 10) C dX1_isTold_10 rfl ?_
      refine zs_getf (pc := 11) C dX1_isTold_11 w_X1_21 f_2_3 (by decide) ?_
      refine zs_iload_n (pc := 14) C dX1_isTold_14 rfl ?_
      refine zs_iald (r := 2017) (pc := 15) C dX1_isTold_15 a_17 (by decide) (by omega) rfl (r_2017 _) (fun v15 e15 l15 u15 => ?_)
      refine zs_aload_n (pc := 16) C dX1_isTold_16 rfl ?_
      refine zs_getf (pc := 17) C dX1_isTold_17 w_X1_18 f_2_2 (by decide) ?_
      refine zs_iload_n (pc := 20) C dX1_isTold_20 rfl ?_
      refine zs_iald (r := 2016) (pc := 21) C dX1_isTold_21 a_16 (by decide) (by omega) rfl (r_2016 _) (fun v21 e21 l21 u21 => ?_)
      refine zs_icmp_le (tgt := 29) (pc := 22) C dX1_isTold_22 (by decide) (fun h22 => ?_) (fun h22 => ?_)
      · skip
        refine zs_iconst (pc := 29) C dX1_isTold_29 (by decide) ?_
        exact zs_zret (pc := 30) C hr hlk dX1_isTold_30 (by omega) ⟨rfl, by first | omega | (simp only [zuI_1, zuI_2, zuJ_1, zuJ_2, zuJ_3, zuP_1, zuP_2, zuP_3, zuC_1, zuC_2, reduceIte, Nat.reduceEqDiff, false_and, and_false, true_and, and_true, and_self, or_true, true_or, or_false, false_or]; omega)⟩
      · skip
        refine zs_iconst (pc := 25) C dX1_isTold_25 (by decide) ?_
        refine zs_goto (tgt := 30) (pc := 26) C dX1_isTold_26 (by decide) ?_
        exact zs_zret (pc := 30) C hr hlk dX1_isTold_30 (by omega) ⟨rfl, by first | omega | (simp only [zuI_1, zuI_2, zuJ_1, zuJ_2, zuJ_3, zuP_1, zuP_2, zuP_3, zuC_1, zuC_2, reduceIte, Nat.reduceEqDiff, false_and, and_false, true_and, and_true, and_self, or_true, true_or, or_false, false_or]; omega)⟩

set_option maxHeartbeats 4000000 in
set_option maxRecDepth 100000 in
theorem c_X1_setNames {l : Launch} {Γ : zΓ} {G : zH} {w : Nat} {q1 q2 q3 q4 q5 q6 q7 : Int} (hX : zXs Γ)  : zMet l Γ yX1_setNames cX1_setNames 8 none 0 [zr 2 w, zi q1, zi q2, zi q3, zi q4, zi q5, zi q6, zi q7] G (zpv (fun G' => zsm [] G G' ∧ True)) := by
  refine zMet_of RX1 hX (by decide) rfl (Nat.le_of_ble_eq_true rfl) ?_
  intro p e s m args below meth c C hr hlk
  show Z p l e (zrm 0) s m args below meth c Γ 8 0 0 (MQ below (zQc Γ (zpv (fun G' => zsm [] G G' ∧ True))) args s 0 0 (zA Γ)) 0 [some (zr 2 w), some (zi q1), some (zi q2), some (zi q3), some (zi q4), some (zi q5), some (zi q6), some (zi q7)] [] G
  refine zs_loc 1 rfl (fun ha1 hb1 => ?_)
  refine zs_loc 2 rfl (fun ha2 hb2 => ?_)
  refine zs_loc 3 rfl (fun ha3 hb3 => ?_)
  refine zs_loc 4 rfl (fun ha4 hb4 => ?_)
  refine zs_loc 5 rfl (fun ha5 hb5 => ?_)
  refine zs_loc 6 rfl (fun ha6 hb6 => ?_)
  refine zs_loc 7 rfl (fun ha7 hb7 => ?_)
  refine zs_aload_n (pc := 0) C dX1_setNames_0 rfl ?_
  refine zs_getf (pc := 1) C dX1_setNames_1 w_X1_24 f_2_4 (by decide) ?_
  refine zs_iconst (pc := 4) C dX1_setNames_4 (by decide) ?_
  refine zs_iload_n (pc := 5) C dX1_setNames_5 rfl ?_
  refine zs_i2l (pc := 6) C dX1_setNames_6 ?_
  refine zs_last (r := 2018) (pc := 7) C dX1_setNames_7 a_18 (by decide) (by omega) rfl ?_
  refine zs_aload_n (pc := 8) C dX1_setNames_8 rfl ?_
  refine zs_getf (pc := 9) C dX1_setNames_9 w_X1_24 f_2_4 (by decide) ?_
  refine zs_iconst (pc := 12) C dX1_setNames_12 (by decide) ?_
  refine zs_iload_n (pc := 13) C dX1_setNames_13 rfl ?_
  refine zs_i2l (pc := 14) C dX1_setNames_14 ?_
  refine zs_last (r := 2018) (pc := 15) C dX1_setNames_15 a_18 (by decide) (by omega) rfl ?_
  refine zs_aload_n (pc := 16) C dX1_setNames_16 rfl ?_
  refine zs_getf (pc := 17) C dX1_setNames_17 w_X1_24 f_2_4 (by decide) ?_
  refine zs_iconst (pc := 20) C dX1_setNames_20 (by decide) ?_
  refine zs_iload_n (pc := 21) C dX1_setNames_21 rfl ?_
  refine zs_i2l (pc := 22) C dX1_setNames_22 ?_
  refine zs_last (r := 2018) (pc := 23) C dX1_setNames_23 a_18 (by decide) (by omega) rfl ?_
  refine zs_aload_n (pc := 24) C dX1_setNames_24 rfl ?_
  refine zs_getf (pc := 25) C dX1_setNames_25 w_X1_24 f_2_4 (by decide) ?_
  refine zs_iconst (pc := 28) C dX1_setNames_28 (by decide) ?_
  refine zs_iload (pc := 29) C dX1_setNames_29 rfl ?_
  refine zs_i2l (pc := 31) C dX1_setNames_31 ?_
  refine zs_last (r := 2018) (pc := 32) C dX1_setNames_32 a_18 (by decide) (by omega) rfl ?_
  refine zs_aload_n (pc := 33) C dX1_setNames_33 rfl ?_
  refine zs_getf (pc := 34) C dX1_setNames_34 w_X1_24 f_2_4 (by decide) ?_
  refine zs_iconst (pc := 37) C dX1_setNames_37 (by decide) ?_
  refine zs_iload (pc := 38) C dX1_setNames_38 rfl ?_
  refine zs_i2l (pc := 40) C dX1_setNames_40 ?_
  refine zs_last (r := 2018) (pc := 41) C dX1_setNames_41 a_18 (by decide) (by omega) rfl ?_
  refine zs_aload_n (pc := 42) C dX1_setNames_42 rfl ?_
  refine zs_getf (pc := 43) C dX1_setNames_43 w_X1_24 f_2_4 (by decide) ?_
  refine zs_iconst (pc := 46) C dX1_setNames_46 (by decide) ?_
  refine zs_iload (pc := 47) C dX1_setNames_47 rfl ?_
  refine zs_i2l (pc := 49) C dX1_setNames_49 ?_
  refine zs_last (r := 2018) (pc := 50) C dX1_setNames_50 a_18 (by decide) (by omega) rfl ?_
  refine zs_aload_n (pc := 51) C dX1_setNames_51 rfl ?_
  refine zs_getf (pc := 52) C dX1_setNames_52 w_X1_24 f_2_4 (by decide) ?_
  refine zs_bipush (pc := 55) C dX1_setNames_55 (by decide) (by decide) ?_
  refine zs_iload (pc := 57) C dX1_setNames_57 rfl ?_
  refine zs_i2l (pc := 59) C dX1_setNames_59 ?_
  refine zs_last (r := 2018) (pc := 60) C dX1_setNames_60 a_18 (by decide) (by omega) rfl ?_
  exact zs_vret (pc := 61) C hr hlk dX1_setNames_61 ⟨by repeat (first | exact zsm_rf | assumption | refine zsm_C (by decide) ?_ | refine zsm_I (by decide) ?_ | refine zsm_J ?_ | refine zsm_c (by assumption) (by decide) ?_), trivial⟩

set_option maxHeartbeats 4000000 in
set_option maxRecDepth 100000 in
theorem c_X1_join {l : Launch} {Γ : zΓ} {G : zH} {k a b : Int} (hX : zXs Γ)  : zMet l Γ yX1_join cX1_join 7 (some .long) 0 [zi k, zj a, zj b] G (zpj (fun x G' => G' = G ∧ True)) := by
  refine zMet_of RX1 hX (by decide) rfl (Nat.le_of_ble_eq_true rfl) ?_
  intro p e s m args below meth c C hr hlk
  show Z p l e (zrm 0) s m args below meth c Γ 7 0 0 (MQ below (zQc Γ (zpj (fun x G' => G' = G ∧ True))) args s 0 0 (zA Γ)) 0 [some (zi k), some (zj a), none, some (zj b), none, none, none] [] G
  refine zs_loc 0 rfl (fun ha0 hb0 => ?_)
  refine zs_iload_n (pc := 0) C dX1_join_0 rfl ?_
  refine zs_name (fun y1 ey1 => ?_)
  rcases (show y1 = 2 ∨ y1 = 3 ∨ y1 = 4 ∨ y1 = 5 ∨ y1 = 6 ∨ y1 = 7 ∨ y1 = 8 ∨ y1 = 9 ∨ y1 = 10 ∨ y1 = 11 ∨ y1 = 12 ∨ y1 = 13 ∨ y1 = 14 ∨ (y1 < 2 ∨ 14 < y1) by omega) with h1 | h1 | h1 | h1 | h1 | h1 | h1 | h1 | h1 | h1 | h1 | h1 | h1 | h1
  · skip
    refine zs_tabIn (pc := 1) (tgt := 68) C 2 dX1_join_1 h1 (by decide) rfl (by decide) ?_
    refine zs_lload_n (pc := 68) C dX1_join_68 rfl ?_
    refine zs_lconst (n := 0) (pc := 69) C dX1_join_69 rfl (by decide) ?_
    refine zs_lcmp (pc := 70) C dX1_join_70 (fun z70 hz70 => ?_)
    refine zs_if_ne (tgt := 80) (pc := 71) C dX1_join_71 (by decide) (fun h71 => ?_) (fun h71 => ?_)
    · skip
      refine zs_lconst (n := 1) (pc := 80) C dX1_join_80 rfl (by decide) ?_
      refine zs_goto (tgt := 85) (pc := 81) C dX1_join_81 (by decide) ?_
      exact zs_lret (pc := 85) C hr hlk dX1_join_85 ⟨rfl, trivial⟩
    · skip
      refine zs_lload_n (pc := 74) C dX1_join_74 rfl ?_
      refine zs_lconst (n := 0) (pc := 75) C dX1_join_75 rfl (by decide) ?_
      refine zs_lcmp (pc := 76) C dX1_join_76 (fun z76 hz76 => ?_)
      refine zs_if_eq (tgt := 84) (pc := 77) C dX1_join_77 (by decide) (fun h77 => ?_) (fun h77 => ?_)
      · skip
        refine zs_lconst (n := 0) (pc := 84) C dX1_join_84 rfl (by decide) ?_
        exact zs_lret (pc := 85) C hr hlk dX1_join_85 ⟨rfl, trivial⟩
      · skip
        refine zs_lconst (n := 1) (pc := 80) C dX1_join_80 rfl (by decide) ?_
        refine zs_goto (tgt := 85) (pc := 81) C dX1_join_81 (by decide) ?_
        exact zs_lret (pc := 85) C hr hlk dX1_join_85 ⟨rfl, trivial⟩
  · skip
    refine zs_tabIn (pc := 1) (tgt := 86) C 3 dX1_join_1 h1 (by decide) rfl (by decide) ?_
    refine zs_lload_n (pc := 86) C dX1_join_86 rfl ?_
    refine zs_lconst (n := 0) (pc := 87) C dX1_join_87 rfl (by decide) ?_
    refine zs_lcmp (pc := 88) C dX1_join_88 (fun z88 hz88 => ?_)
    refine zs_if_eq (tgt := 102) (pc := 89) C dX1_join_89 (by decide) (fun h89 => ?_) (fun h89 => ?_)
    · skip
      refine zs_lconst (n := 0) (pc := 102) C dX1_join_102 rfl (by decide) ?_
      exact zs_lret (pc := 103) C hr hlk dX1_join_103 ⟨rfl, trivial⟩
    · skip
      refine zs_lload_n (pc := 92) C dX1_join_92 rfl ?_
      refine zs_lconst (n := 0) (pc := 93) C dX1_join_93 rfl (by decide) ?_
      refine zs_lcmp (pc := 94) C dX1_join_94 (fun z94 hz94 => ?_)
      refine zs_if_eq (tgt := 102) (pc := 95) C dX1_join_95 (by decide) (fun h95 => ?_) (fun h95 => ?_)
      · skip
        refine zs_lconst (n := 0) (pc := 102) C dX1_join_102 rfl (by decide) ?_
        exact zs_lret (pc := 103) C hr hlk dX1_join_103 ⟨rfl, trivial⟩
      · skip
        refine zs_lconst (n := 1) (pc := 98) C dX1_join_98 rfl (by decide) ?_
        refine zs_goto (tgt := 103) (pc := 99) C dX1_join_99 (by decide) ?_
        exact zs_lret (pc := 103) C hr hlk dX1_join_103 ⟨rfl, trivial⟩
  · skip
    refine zs_tabIn (pc := 1) (tgt := 200) C 4 dX1_join_1 h1 (by decide) rfl (by decide) ?_
    refine zs_lload_n (pc := 200) C dX1_join_200 rfl ?_
    refine zs_lconst (n := 0) (pc := 201) C dX1_join_201 rfl (by decide) ?_
    refine zs_lcmp (pc := 202) C dX1_join_202 (fun z202 hz202 => ?_)
    refine zs_if_ne (tgt := 212) (pc := 203) C dX1_join_203 (by decide) (fun h203 => ?_) (fun h203 => ?_)
    · skip
      refine zs_ldc2 (n := 1000000000000) (pc := 212) C dX1_join_212 q_X1_54 (by decide) (by decide) ?_
      refine zs_lload_n (pc := 215) C dX1_join_215 rfl ?_
      refine zs_lconst (n := 0) (pc := 216) C dX1_join_216 rfl (by decide) ?_
      refine zs_lcmp (pc := 217) C dX1_join_217 (fun z217 hz217 => ?_)
      refine zs_if_ge (tgt := 226) (pc := 218) C dX1_join_218 (by decide) (fun h218 => ?_) (fun h218 => ?_)
      · skip
        refine zs_lload_n (pc := 226) C dX1_join_226 rfl ?_
        refine zs_ldiv (pc := 227) C dX1_join_227 (by omega) (fun z227 hz2271 hz2272 => ?_)
        refine zs_lstore (pc := 228) C dX1_join_228 (by decide) ?_
        dsimp only [zset, zclr, znone]
        refine zs_lload_n (pc := 230) C dX1_join_230 rfl ?_
        refine zs_lload (pc := 231) C dX1_join_231 rfl ?_
        refine zs_lcmp (pc := 233) C dX1_join_233 (fun z233 hz233 => ?_)
        refine zs_if_gt (tgt := 245) (pc := 234) C dX1_join_234 (by decide) (fun h234 => ?_) (fun h234 => ?_)
        · skip
          refine zs_ldc2 (n := -9223372036854775808) (pc := 245) C dX1_join_245 q_X1_48 (by decide) (by decide) ?_
          refine zs_goto (tgt := 254) (pc := 248) C dX1_join_248 (by decide) ?_
          exact zs_lret (pc := 254) C hr hlk dX1_join_254 ⟨rfl, trivial⟩
        · skip
          refine zs_lload_n (pc := 237) C dX1_join_237 rfl ?_
          refine zs_lload (pc := 238) C dX1_join_238 rfl ?_
          refine zs_lneg (pc := 240) C dX1_join_240 (fun z240 hz2401 hz2402 hz2403 => ?_)
          refine zs_lcmp (pc := 241) C dX1_join_241 (fun z241 hz241 => ?_)
          refine zs_if_ge (tgt := 251) (pc := 242) C dX1_join_242 (by decide) (fun h242 => ?_) (fun h242 => ?_)
          · skip
            refine zs_lload_n (pc := 251) C dX1_join_251 rfl ?_
            refine zs_lload_n (pc := 252) C dX1_join_252 rfl ?_
            refine zs_lmulF (pc := 253) C dX1_join_253 (fun z253 hz2531 hz2532 => ?_)
            exact zs_lret (pc := 254) C hr hlk dX1_join_254 ⟨rfl, trivial⟩
          · skip
            refine zs_ldc2 (n := -9223372036854775808) (pc := 245) C dX1_join_245 q_X1_48 (by decide) (by decide) ?_
            refine zs_goto (tgt := 254) (pc := 248) C dX1_join_248 (by decide) ?_
            exact zs_lret (pc := 254) C hr hlk dX1_join_254 ⟨rfl, trivial⟩
      · skip
        refine zs_lload_n (pc := 221) C dX1_join_221 rfl ?_
        refine zs_lneg (pc := 222) C dX1_join_222 (fun z222 hz2221 hz2222 hz2223 => ?_)
        refine zs_goto (tgt := 227) (pc := 223) C dX1_join_223 (by decide) ?_
        refine zs_ldiv (pc := 227) C dX1_join_227 (by omega) (fun z227 hz2271 hz2272 => ?_)
        refine zs_lstore (pc := 228) C dX1_join_228 (by decide) ?_
        dsimp only [zset, zclr, znone]
        refine zs_lload_n (pc := 230) C dX1_join_230 rfl ?_
        refine zs_lload (pc := 231) C dX1_join_231 rfl ?_
        refine zs_lcmp (pc := 233) C dX1_join_233 (fun z233 hz233 => ?_)
        refine zs_if_gt (tgt := 245) (pc := 234) C dX1_join_234 (by decide) (fun h234 => ?_) (fun h234 => ?_)
        · skip
          refine zs_ldc2 (n := -9223372036854775808) (pc := 245) C dX1_join_245 q_X1_48 (by decide) (by decide) ?_
          refine zs_goto (tgt := 254) (pc := 248) C dX1_join_248 (by decide) ?_
          exact zs_lret (pc := 254) C hr hlk dX1_join_254 ⟨rfl, trivial⟩
        · skip
          refine zs_lload_n (pc := 237) C dX1_join_237 rfl ?_
          refine zs_lload (pc := 238) C dX1_join_238 rfl ?_
          refine zs_lneg (pc := 240) C dX1_join_240 (fun z240 hz2401 hz2402 hz2403 => ?_)
          refine zs_lcmp (pc := 241) C dX1_join_241 (fun z241 hz241 => ?_)
          refine zs_if_ge (tgt := 251) (pc := 242) C dX1_join_242 (by decide) (fun h242 => ?_) (fun h242 => ?_)
          · skip
            refine zs_lload_n (pc := 251) C dX1_join_251 rfl ?_
            refine zs_lload_n (pc := 252) C dX1_join_252 rfl ?_
            refine zs_lmulF (pc := 253) C dX1_join_253 (fun z253 hz2531 hz2532 => ?_)
            exact zs_lret (pc := 254) C hr hlk dX1_join_254 ⟨rfl, trivial⟩
          · skip
            refine zs_ldc2 (n := -9223372036854775808) (pc := 245) C dX1_join_245 q_X1_48 (by decide) (by decide) ?_
            refine zs_goto (tgt := 254) (pc := 248) C dX1_join_248 (by decide) ?_
            exact zs_lret (pc := 254) C hr hlk dX1_join_254 ⟨rfl, trivial⟩
    · skip
      refine zs_ldc2 (n := 1000000000000) (pc := 206) C dX1_join_206 q_X1_54 (by decide) (by decide) ?_
      refine zs_goto (tgt := 228) (pc := 209) C dX1_join_209 (by decide) ?_
      refine zs_lstore (pc := 228) C dX1_join_228 (by decide) ?_
      dsimp only [zset, zclr, znone]
      refine zs_lload_n (pc := 230) C dX1_join_230 rfl ?_
      refine zs_lload (pc := 231) C dX1_join_231 rfl ?_
      refine zs_lcmp (pc := 233) C dX1_join_233 (fun z233 hz233 => ?_)
      refine zs_if_gt (tgt := 245) (pc := 234) C dX1_join_234 (by decide) (fun h234 => ?_) (fun h234 => ?_)
      · skip
        refine zs_ldc2 (n := -9223372036854775808) (pc := 245) C dX1_join_245 q_X1_48 (by decide) (by decide) ?_
        refine zs_goto (tgt := 254) (pc := 248) C dX1_join_248 (by decide) ?_
        exact zs_lret (pc := 254) C hr hlk dX1_join_254 ⟨rfl, trivial⟩
      · skip
        refine zs_lload_n (pc := 237) C dX1_join_237 rfl ?_
        refine zs_lload (pc := 238) C dX1_join_238 rfl ?_
        refine zs_lneg (pc := 240) C dX1_join_240 (fun z240 hz2401 hz2402 hz2403 => ?_)
        refine zs_lcmp (pc := 241) C dX1_join_241 (fun z241 hz241 => ?_)
        refine zs_if_ge (tgt := 251) (pc := 242) C dX1_join_242 (by decide) (fun h242 => ?_) (fun h242 => ?_)
        · skip
          refine zs_lload_n (pc := 251) C dX1_join_251 rfl ?_
          refine zs_lload_n (pc := 252) C dX1_join_252 rfl ?_
          refine zs_lmulF (pc := 253) C dX1_join_253 (fun z253 hz2531 hz2532 => ?_)
          exact zs_lret (pc := 254) C hr hlk dX1_join_254 ⟨rfl, trivial⟩
        · skip
          refine zs_ldc2 (n := -9223372036854775808) (pc := 245) C dX1_join_245 q_X1_48 (by decide) (by decide) ?_
          refine zs_goto (tgt := 254) (pc := 248) C dX1_join_248 (by decide) ?_
          exact zs_lret (pc := 254) C hr hlk dX1_join_254 ⟨rfl, trivial⟩
  · skip
    refine zs_tabIn (pc := 1) (tgt := 104) C 5 dX1_join_1 h1 (by decide) rfl (by decide) ?_
    refine zs_lload_n (pc := 104) C dX1_join_104 rfl ?_
    refine zs_lload_n (pc := 105) C dX1_join_105 rfl ?_
    refine zs_lcmp (pc := 106) C dX1_join_106 (fun z106 hz106 => ?_)
    refine zs_if_ge (tgt := 114) (pc := 107) C dX1_join_107 (by decide) (fun h107 => ?_) (fun h107 => ?_)
    · skip
      refine zs_lconst (n := 0) (pc := 114) C dX1_join_114 rfl (by decide) ?_
      exact zs_lret (pc := 115) C hr hlk dX1_join_115 ⟨rfl, trivial⟩
    · skip
      refine zs_lconst (n := 1) (pc := 110) C dX1_join_110 rfl (by decide) ?_
      refine zs_goto (tgt := 115) (pc := 111) C dX1_join_111 (by decide) ?_
      exact zs_lret (pc := 115) C hr hlk dX1_join_115 ⟨rfl, trivial⟩
  · skip
    refine zs_tabIn (pc := 1) (tgt := 116) C 6 dX1_join_1 h1 (by decide) rfl (by decide) ?_
    refine zs_lload_n (pc := 116) C dX1_join_116 rfl ?_
    refine zs_lload_n (pc := 117) C dX1_join_117 rfl ?_
    refine zs_lcmp (pc := 118) C dX1_join_118 (fun z118 hz118 => ?_)
    refine zs_if_gt (tgt := 126) (pc := 119) C dX1_join_119 (by decide) (fun h119 => ?_) (fun h119 => ?_)
    · skip
      refine zs_lconst (n := 0) (pc := 126) C dX1_join_126 rfl (by decide) ?_
      exact zs_lret (pc := 127) C hr hlk dX1_join_127 ⟨rfl, trivial⟩
    · skip
      refine zs_lconst (n := 1) (pc := 122) C dX1_join_122 rfl (by decide) ?_
      refine zs_goto (tgt := 127) (pc := 123) C dX1_join_123 (by decide) ?_
      exact zs_lret (pc := 127) C hr hlk dX1_join_127 ⟨rfl, trivial⟩
  · skip
    refine zs_tabIn (pc := 1) (tgt := 128) C 7 dX1_join_1 h1 (by decide) rfl (by decide) ?_
    refine zs_lload_n (pc := 128) C dX1_join_128 rfl ?_
    refine zs_lload_n (pc := 129) C dX1_join_129 rfl ?_
    refine zs_lcmp (pc := 130) C dX1_join_130 (fun z130 hz130 => ?_)
    refine zs_if_ne (tgt := 138) (pc := 131) C dX1_join_131 (by decide) (fun h131 => ?_) (fun h131 => ?_)
    · skip
      refine zs_lconst (n := 0) (pc := 138) C dX1_join_138 rfl (by decide) ?_
      exact zs_lret (pc := 139) C hr hlk dX1_join_139 ⟨rfl, trivial⟩
    · skip
      refine zs_lconst (n := 1) (pc := 134) C dX1_join_134 rfl (by decide) ?_
      refine zs_goto (tgt := 139) (pc := 135) C dX1_join_135 (by decide) ?_
      exact zs_lret (pc := 139) C hr hlk dX1_join_139 ⟨rfl, trivial⟩
  · skip
    refine zs_tabIn (pc := 1) (tgt := 140) C 8 dX1_join_1 h1 (by decide) rfl (by decide) ?_
    refine zs_lload_n (pc := 140) C dX1_join_140 rfl ?_
    refine zs_lload_n (pc := 141) C dX1_join_141 rfl ?_
    refine zs_lcmp (pc := 142) C dX1_join_142 (fun z142 hz142 => ?_)
    refine zs_if_eq (tgt := 150) (pc := 143) C dX1_join_143 (by decide) (fun h143 => ?_) (fun h143 => ?_)
    · skip
      refine zs_lconst (n := 0) (pc := 150) C dX1_join_150 rfl (by decide) ?_
      exact zs_lret (pc := 151) C hr hlk dX1_join_151 ⟨rfl, trivial⟩
    · skip
      refine zs_lconst (n := 1) (pc := 146) C dX1_join_146 rfl (by decide) ?_
      refine zs_goto (tgt := 151) (pc := 147) C dX1_join_147 (by decide) ?_
      exact zs_lret (pc := 151) C hr hlk dX1_join_151 ⟨rfl, trivial⟩
  · skip
    refine zs_tabIn (pc := 1) (tgt := 152) C 9 dX1_join_1 h1 (by decide) rfl (by decide) ?_
    refine zs_lload_n (pc := 152) C dX1_join_152 rfl ?_
    refine zs_lload_n (pc := 153) C dX1_join_153 rfl ?_
    refine zs_lcmp (pc := 154) C dX1_join_154 (fun z154 hz154 => ?_)
    refine zs_if_lt (tgt := 162) (pc := 155) C dX1_join_155 (by decide) (fun h155 => ?_) (fun h155 => ?_)
    · skip
      refine zs_lconst (n := 0) (pc := 162) C dX1_join_162 rfl (by decide) ?_
      exact zs_lret (pc := 163) C hr hlk dX1_join_163 ⟨rfl, trivial⟩
    · skip
      refine zs_lconst (n := 1) (pc := 158) C dX1_join_158 rfl (by decide) ?_
      refine zs_goto (tgt := 163) (pc := 159) C dX1_join_159 (by decide) ?_
      exact zs_lret (pc := 163) C hr hlk dX1_join_163 ⟨rfl, trivial⟩
  · skip
    refine zs_tabIn (pc := 1) (tgt := 164) C 10 dX1_join_1 h1 (by decide) rfl (by decide) ?_
    refine zs_lload_n (pc := 164) C dX1_join_164 rfl ?_
    refine zs_lload_n (pc := 165) C dX1_join_165 rfl ?_
    refine zs_lcmp (pc := 166) C dX1_join_166 (fun z166 hz166 => ?_)
    refine zs_if_le (tgt := 174) (pc := 167) C dX1_join_167 (by decide) (fun h167 => ?_) (fun h167 => ?_)
    · skip
      refine zs_lconst (n := 0) (pc := 174) C dX1_join_174 rfl (by decide) ?_
      exact zs_lret (pc := 175) C hr hlk dX1_join_175 ⟨rfl, trivial⟩
    · skip
      refine zs_lconst (n := 1) (pc := 170) C dX1_join_170 rfl (by decide) ?_
      refine zs_goto (tgt := 175) (pc := 171) C dX1_join_171 (by decide) ?_
      exact zs_lret (pc := 175) C hr hlk dX1_join_175 ⟨rfl, trivial⟩
  · skip
    refine zs_tabIn (pc := 1) (tgt := 176) C 11 dX1_join_1 h1 (by decide) rfl (by decide) ?_
    refine zs_lload_n (pc := 176) C dX1_join_176 rfl ?_
    refine zs_lload_n (pc := 177) C dX1_join_177 rfl ?_
    refine zs_laddF (pc := 178) C dX1_join_178 (fun z178 hz1781 hz1782 => ?_)
    exact zs_lret (pc := 179) C hr hlk dX1_join_179 ⟨rfl, trivial⟩
  · skip
    refine zs_tabIn (pc := 1) (tgt := 180) C 12 dX1_join_1 h1 (by decide) rfl (by decide) ?_
    refine zs_lload_n (pc := 180) C dX1_join_180 rfl ?_
    refine zs_lload_n (pc := 181) C dX1_join_181 rfl ?_
    refine zs_lsubF (pc := 182) C dX1_join_182 (fun z182 hz1821 hz1822 => ?_)
    exact zs_lret (pc := 183) C hr hlk dX1_join_183 ⟨rfl, trivial⟩
  · skip
    refine zs_tabIn (pc := 1) (tgt := 200) C 13 dX1_join_1 h1 (by decide) rfl (by decide) ?_
    refine zs_lload_n (pc := 200) C dX1_join_200 rfl ?_
    refine zs_lconst (n := 0) (pc := 201) C dX1_join_201 rfl (by decide) ?_
    refine zs_lcmp (pc := 202) C dX1_join_202 (fun z202 hz202 => ?_)
    refine zs_if_ne (tgt := 212) (pc := 203) C dX1_join_203 (by decide) (fun h203 => ?_) (fun h203 => ?_)
    · skip
      refine zs_ldc2 (n := 1000000000000) (pc := 212) C dX1_join_212 q_X1_54 (by decide) (by decide) ?_
      refine zs_lload_n (pc := 215) C dX1_join_215 rfl ?_
      refine zs_lconst (n := 0) (pc := 216) C dX1_join_216 rfl (by decide) ?_
      refine zs_lcmp (pc := 217) C dX1_join_217 (fun z217 hz217 => ?_)
      refine zs_if_ge (tgt := 226) (pc := 218) C dX1_join_218 (by decide) (fun h218 => ?_) (fun h218 => ?_)
      · skip
        refine zs_lload_n (pc := 226) C dX1_join_226 rfl ?_
        refine zs_ldiv (pc := 227) C dX1_join_227 (by omega) (fun z227 hz2271 hz2272 => ?_)
        refine zs_lstore (pc := 228) C dX1_join_228 (by decide) ?_
        dsimp only [zset, zclr, znone]
        refine zs_lload_n (pc := 230) C dX1_join_230 rfl ?_
        refine zs_lload (pc := 231) C dX1_join_231 rfl ?_
        refine zs_lcmp (pc := 233) C dX1_join_233 (fun z233 hz233 => ?_)
        refine zs_if_gt (tgt := 245) (pc := 234) C dX1_join_234 (by decide) (fun h234 => ?_) (fun h234 => ?_)
        · skip
          refine zs_ldc2 (n := -9223372036854775808) (pc := 245) C dX1_join_245 q_X1_48 (by decide) (by decide) ?_
          refine zs_goto (tgt := 254) (pc := 248) C dX1_join_248 (by decide) ?_
          exact zs_lret (pc := 254) C hr hlk dX1_join_254 ⟨rfl, trivial⟩
        · skip
          refine zs_lload_n (pc := 237) C dX1_join_237 rfl ?_
          refine zs_lload (pc := 238) C dX1_join_238 rfl ?_
          refine zs_lneg (pc := 240) C dX1_join_240 (fun z240 hz2401 hz2402 hz2403 => ?_)
          refine zs_lcmp (pc := 241) C dX1_join_241 (fun z241 hz241 => ?_)
          refine zs_if_ge (tgt := 251) (pc := 242) C dX1_join_242 (by decide) (fun h242 => ?_) (fun h242 => ?_)
          · skip
            refine zs_lload_n (pc := 251) C dX1_join_251 rfl ?_
            refine zs_lload_n (pc := 252) C dX1_join_252 rfl ?_
            refine zs_lmulF (pc := 253) C dX1_join_253 (fun z253 hz2531 hz2532 => ?_)
            exact zs_lret (pc := 254) C hr hlk dX1_join_254 ⟨rfl, trivial⟩
          · skip
            refine zs_ldc2 (n := -9223372036854775808) (pc := 245) C dX1_join_245 q_X1_48 (by decide) (by decide) ?_
            refine zs_goto (tgt := 254) (pc := 248) C dX1_join_248 (by decide) ?_
            exact zs_lret (pc := 254) C hr hlk dX1_join_254 ⟨rfl, trivial⟩
      · skip
        refine zs_lload_n (pc := 221) C dX1_join_221 rfl ?_
        refine zs_lneg (pc := 222) C dX1_join_222 (fun z222 hz2221 hz2222 hz2223 => ?_)
        refine zs_goto (tgt := 227) (pc := 223) C dX1_join_223 (by decide) ?_
        refine zs_ldiv (pc := 227) C dX1_join_227 (by omega) (fun z227 hz2271 hz2272 => ?_)
        refine zs_lstore (pc := 228) C dX1_join_228 (by decide) ?_
        dsimp only [zset, zclr, znone]
        refine zs_lload_n (pc := 230) C dX1_join_230 rfl ?_
        refine zs_lload (pc := 231) C dX1_join_231 rfl ?_
        refine zs_lcmp (pc := 233) C dX1_join_233 (fun z233 hz233 => ?_)
        refine zs_if_gt (tgt := 245) (pc := 234) C dX1_join_234 (by decide) (fun h234 => ?_) (fun h234 => ?_)
        · skip
          refine zs_ldc2 (n := -9223372036854775808) (pc := 245) C dX1_join_245 q_X1_48 (by decide) (by decide) ?_
          refine zs_goto (tgt := 254) (pc := 248) C dX1_join_248 (by decide) ?_
          exact zs_lret (pc := 254) C hr hlk dX1_join_254 ⟨rfl, trivial⟩
        · skip
          refine zs_lload_n (pc := 237) C dX1_join_237 rfl ?_
          refine zs_lload (pc := 238) C dX1_join_238 rfl ?_
          refine zs_lneg (pc := 240) C dX1_join_240 (fun z240 hz2401 hz2402 hz2403 => ?_)
          refine zs_lcmp (pc := 241) C dX1_join_241 (fun z241 hz241 => ?_)
          refine zs_if_ge (tgt := 251) (pc := 242) C dX1_join_242 (by decide) (fun h242 => ?_) (fun h242 => ?_)
          · skip
            refine zs_lload_n (pc := 251) C dX1_join_251 rfl ?_
            refine zs_lload_n (pc := 252) C dX1_join_252 rfl ?_
            refine zs_lmulF (pc := 253) C dX1_join_253 (fun z253 hz2531 hz2532 => ?_)
            exact zs_lret (pc := 254) C hr hlk dX1_join_254 ⟨rfl, trivial⟩
          · skip
            refine zs_ldc2 (n := -9223372036854775808) (pc := 245) C dX1_join_245 q_X1_48 (by decide) (by decide) ?_
            refine zs_goto (tgt := 254) (pc := 248) C dX1_join_248 (by decide) ?_
            exact zs_lret (pc := 254) C hr hlk dX1_join_254 ⟨rfl, trivial⟩
    · skip
      refine zs_ldc2 (n := 1000000000000) (pc := 206) C dX1_join_206 q_X1_54 (by decide) (by decide) ?_
      refine zs_goto (tgt := 228) (pc := 209) C dX1_join_209 (by decide) ?_
      refine zs_lstore (pc := 228) C dX1_join_228 (by decide) ?_
      dsimp only [zset, zclr, znone]
      refine zs_lload_n (pc := 230) C dX1_join_230 rfl ?_
      refine zs_lload (pc := 231) C dX1_join_231 rfl ?_
      refine zs_lcmp (pc := 233) C dX1_join_233 (fun z233 hz233 => ?_)
      refine zs_if_gt (tgt := 245) (pc := 234) C dX1_join_234 (by decide) (fun h234 => ?_) (fun h234 => ?_)
      · skip
        refine zs_ldc2 (n := -9223372036854775808) (pc := 245) C dX1_join_245 q_X1_48 (by decide) (by decide) ?_
        refine zs_goto (tgt := 254) (pc := 248) C dX1_join_248 (by decide) ?_
        exact zs_lret (pc := 254) C hr hlk dX1_join_254 ⟨rfl, trivial⟩
      · skip
        refine zs_lload_n (pc := 237) C dX1_join_237 rfl ?_
        refine zs_lload (pc := 238) C dX1_join_238 rfl ?_
        refine zs_lneg (pc := 240) C dX1_join_240 (fun z240 hz2401 hz2402 hz2403 => ?_)
        refine zs_lcmp (pc := 241) C dX1_join_241 (fun z241 hz241 => ?_)
        refine zs_if_ge (tgt := 251) (pc := 242) C dX1_join_242 (by decide) (fun h242 => ?_) (fun h242 => ?_)
        · skip
          refine zs_lload_n (pc := 251) C dX1_join_251 rfl ?_
          refine zs_lload_n (pc := 252) C dX1_join_252 rfl ?_
          refine zs_lmulF (pc := 253) C dX1_join_253 (fun z253 hz2531 hz2532 => ?_)
          exact zs_lret (pc := 254) C hr hlk dX1_join_254 ⟨rfl, trivial⟩
        · skip
          refine zs_ldc2 (n := -9223372036854775808) (pc := 245) C dX1_join_245 q_X1_48 (by decide) (by decide) ?_
          refine zs_goto (tgt := 254) (pc := 248) C dX1_join_248 (by decide) ?_
          exact zs_lret (pc := 254) C hr hlk dX1_join_254 ⟨rfl, trivial⟩
  · skip
    refine zs_tabIn (pc := 1) (tgt := 184) C 14 dX1_join_1 h1 (by decide) rfl (by decide) ?_
    refine zs_lload_n (pc := 184) C dX1_join_184 rfl ?_
    refine zs_lconst (n := 0) (pc := 185) C dX1_join_185 rfl (by decide) ?_
    refine zs_lcmp (pc := 186) C dX1_join_186 (fun z186 hz186 => ?_)
    refine zs_if_ne (tgt := 196) (pc := 187) C dX1_join_187 (by decide) (fun h187 => ?_) (fun h187 => ?_)
    · skip
      refine zs_lload_n (pc := 196) C dX1_join_196 rfl ?_
      refine zs_lload_n (pc := 197) C dX1_join_197 rfl ?_
      refine zs_ldiv (pc := 198) C dX1_join_198 (by omega) (fun z198 hz1981 hz1982 => ?_)
      exact zs_lret (pc := 199) C hr hlk dX1_join_199 ⟨rfl, trivial⟩
    · skip
      refine zs_ldc2 (n := -9223372036854775808) (pc := 190) C dX1_join_190 q_X1_48 (by decide) (by decide) ?_
      refine zs_goto (tgt := 199) (pc := 193) C dX1_join_193 (by decide) ?_
      exact zs_lret (pc := 199) C hr hlk dX1_join_199 ⟨rfl, trivial⟩
  · skip
    refine zs_tabOut (tgt := 200) (pc := 1) C dX1_join_1 h1 (by decide) ?_
    refine zs_lload_n (pc := 200) C dX1_join_200 rfl ?_
    refine zs_lconst (n := 0) (pc := 201) C dX1_join_201 rfl (by decide) ?_
    refine zs_lcmp (pc := 202) C dX1_join_202 (fun z202 hz202 => ?_)
    refine zs_if_ne (tgt := 212) (pc := 203) C dX1_join_203 (by decide) (fun h203 => ?_) (fun h203 => ?_)
    · skip
      refine zs_ldc2 (n := 1000000000000) (pc := 212) C dX1_join_212 q_X1_54 (by decide) (by decide) ?_
      refine zs_lload_n (pc := 215) C dX1_join_215 rfl ?_
      refine zs_lconst (n := 0) (pc := 216) C dX1_join_216 rfl (by decide) ?_
      refine zs_lcmp (pc := 217) C dX1_join_217 (fun z217 hz217 => ?_)
      refine zs_if_ge (tgt := 226) (pc := 218) C dX1_join_218 (by decide) (fun h218 => ?_) (fun h218 => ?_)
      · skip
        refine zs_lload_n (pc := 226) C dX1_join_226 rfl ?_
        refine zs_ldiv (pc := 227) C dX1_join_227 (by omega) (fun z227 hz2271 hz2272 => ?_)
        refine zs_lstore (pc := 228) C dX1_join_228 (by decide) ?_
        dsimp only [zset, zclr, znone]
        refine zs_lload_n (pc := 230) C dX1_join_230 rfl ?_
        refine zs_lload (pc := 231) C dX1_join_231 rfl ?_
        refine zs_lcmp (pc := 233) C dX1_join_233 (fun z233 hz233 => ?_)
        refine zs_if_gt (tgt := 245) (pc := 234) C dX1_join_234 (by decide) (fun h234 => ?_) (fun h234 => ?_)
        · skip
          refine zs_ldc2 (n := -9223372036854775808) (pc := 245) C dX1_join_245 q_X1_48 (by decide) (by decide) ?_
          refine zs_goto (tgt := 254) (pc := 248) C dX1_join_248 (by decide) ?_
          exact zs_lret (pc := 254) C hr hlk dX1_join_254 ⟨rfl, trivial⟩
        · skip
          refine zs_lload_n (pc := 237) C dX1_join_237 rfl ?_
          refine zs_lload (pc := 238) C dX1_join_238 rfl ?_
          refine zs_lneg (pc := 240) C dX1_join_240 (fun z240 hz2401 hz2402 hz2403 => ?_)
          refine zs_lcmp (pc := 241) C dX1_join_241 (fun z241 hz241 => ?_)
          refine zs_if_ge (tgt := 251) (pc := 242) C dX1_join_242 (by decide) (fun h242 => ?_) (fun h242 => ?_)
          · skip
            refine zs_lload_n (pc := 251) C dX1_join_251 rfl ?_
            refine zs_lload_n (pc := 252) C dX1_join_252 rfl ?_
            refine zs_lmulF (pc := 253) C dX1_join_253 (fun z253 hz2531 hz2532 => ?_)
            exact zs_lret (pc := 254) C hr hlk dX1_join_254 ⟨rfl, trivial⟩
          · skip
            refine zs_ldc2 (n := -9223372036854775808) (pc := 245) C dX1_join_245 q_X1_48 (by decide) (by decide) ?_
            refine zs_goto (tgt := 254) (pc := 248) C dX1_join_248 (by decide) ?_
            exact zs_lret (pc := 254) C hr hlk dX1_join_254 ⟨rfl, trivial⟩
      · skip
        refine zs_lload_n (pc := 221) C dX1_join_221 rfl ?_
        refine zs_lneg (pc := 222) C dX1_join_222 (fun z222 hz2221 hz2222 hz2223 => ?_)
        refine zs_goto (tgt := 227) (pc := 223) C dX1_join_223 (by decide) ?_
        refine zs_ldiv (pc := 227) C dX1_join_227 (by omega) (fun z227 hz2271 hz2272 => ?_)
        refine zs_lstore (pc := 228) C dX1_join_228 (by decide) ?_
        dsimp only [zset, zclr, znone]
        refine zs_lload_n (pc := 230) C dX1_join_230 rfl ?_
        refine zs_lload (pc := 231) C dX1_join_231 rfl ?_
        refine zs_lcmp (pc := 233) C dX1_join_233 (fun z233 hz233 => ?_)
        refine zs_if_gt (tgt := 245) (pc := 234) C dX1_join_234 (by decide) (fun h234 => ?_) (fun h234 => ?_)
        · skip
          refine zs_ldc2 (n := -9223372036854775808) (pc := 245) C dX1_join_245 q_X1_48 (by decide) (by decide) ?_
          refine zs_goto (tgt := 254) (pc := 248) C dX1_join_248 (by decide) ?_
          exact zs_lret (pc := 254) C hr hlk dX1_join_254 ⟨rfl, trivial⟩
        · skip
          refine zs_lload_n (pc := 237) C dX1_join_237 rfl ?_
          refine zs_lload (pc := 238) C dX1_join_238 rfl ?_
          refine zs_lneg (pc := 240) C dX1_join_240 (fun z240 hz2401 hz2402 hz2403 => ?_)
          refine zs_lcmp (pc := 241) C dX1_join_241 (fun z241 hz241 => ?_)
          refine zs_if_ge (tgt := 251) (pc := 242) C dX1_join_242 (by decide) (fun h242 => ?_) (fun h242 => ?_)
          · skip
            refine zs_lload_n (pc := 251) C dX1_join_251 rfl ?_
            refine zs_lload_n (pc := 252) C dX1_join_252 rfl ?_
            refine zs_lmulF (pc := 253) C dX1_join_253 (fun z253 hz2531 hz2532 => ?_)
            exact zs_lret (pc := 254) C hr hlk dX1_join_254 ⟨rfl, trivial⟩
          · skip
            refine zs_ldc2 (n := -9223372036854775808) (pc := 245) C dX1_join_245 q_X1_48 (by decide) (by decide) ?_
            refine zs_goto (tgt := 254) (pc := 248) C dX1_join_248 (by decide) ?_
            exact zs_lret (pc := 254) C hr hlk dX1_join_254 ⟨rfl, trivial⟩
    · skip
      refine zs_ldc2 (n := 1000000000000) (pc := 206) C dX1_join_206 q_X1_54 (by decide) (by decide) ?_
      refine zs_goto (tgt := 228) (pc := 209) C dX1_join_209 (by decide) ?_
      refine zs_lstore (pc := 228) C dX1_join_228 (by decide) ?_
      dsimp only [zset, zclr, znone]
      refine zs_lload_n (pc := 230) C dX1_join_230 rfl ?_
      refine zs_lload (pc := 231) C dX1_join_231 rfl ?_
      refine zs_lcmp (pc := 233) C dX1_join_233 (fun z233 hz233 => ?_)
      refine zs_if_gt (tgt := 245) (pc := 234) C dX1_join_234 (by decide) (fun h234 => ?_) (fun h234 => ?_)
      · skip
        refine zs_ldc2 (n := -9223372036854775808) (pc := 245) C dX1_join_245 q_X1_48 (by decide) (by decide) ?_
        refine zs_goto (tgt := 254) (pc := 248) C dX1_join_248 (by decide) ?_
        exact zs_lret (pc := 254) C hr hlk dX1_join_254 ⟨rfl, trivial⟩
      · skip
        refine zs_lload_n (pc := 237) C dX1_join_237 rfl ?_
        refine zs_lload (pc := 238) C dX1_join_238 rfl ?_
        refine zs_lneg (pc := 240) C dX1_join_240 (fun z240 hz2401 hz2402 hz2403 => ?_)
        refine zs_lcmp (pc := 241) C dX1_join_241 (fun z241 hz241 => ?_)
        refine zs_if_ge (tgt := 251) (pc := 242) C dX1_join_242 (by decide) (fun h242 => ?_) (fun h242 => ?_)
        · skip
          refine zs_lload_n (pc := 251) C dX1_join_251 rfl ?_
          refine zs_lload_n (pc := 252) C dX1_join_252 rfl ?_
          refine zs_lmulF (pc := 253) C dX1_join_253 (fun z253 hz2531 hz2532 => ?_)
          exact zs_lret (pc := 254) C hr hlk dX1_join_254 ⟨rfl, trivial⟩
        · skip
          refine zs_ldc2 (n := -9223372036854775808) (pc := 245) C dX1_join_245 q_X1_48 (by decide) (by decide) ?_
          refine zs_goto (tgt := 254) (pc := 248) C dX1_join_248 (by decide) ?_
          exact zs_lret (pc := 254) C hr hlk dX1_join_254 ⟨rfl, trivial⟩

set_option maxHeartbeats 4000000 in
set_option maxRecDepth 100000 in
theorem c_X1_value {l : Launch} {Γ : zΓ} {G : zH} {w : Nat} {k : Int} (hX : zXs Γ)  : zMet l Γ yX1_value cX1_value 8 (some .long) 1 [zr 2 w, zi k] G (zpj (fun x G' => zsm [] G G' ∧ True)) := by
  refine zMet_of RX1 hX (by decide) rfl (Nat.le_of_ble_eq_true rfl) ?_
  intro p e s m args below meth c C hr hlk
  show Z p l e (zrm 1) s m args below meth c Γ 8 0 0 (MQ below (zQc Γ (zpj (fun x G' => zsm [] G G' ∧ True))) args s 0 0 (zA Γ)) 0 [some (zr 2 w), some (zi k), none, none, none, none, none, none] [] G
  refine zs_loc 1 rfl (fun ha1 hb1 => ?_)
  refine zs_aload_n (pc := 0) C dX1_value_0 rfl ?_
  refine zs_iload_n (pc := 1) C dX1_value_1 rfl ?_
  refine zVip1 (pc := 2) C dX1_value_2 v_X1_44 (c_X1_isTold hX ) (by decide) (by decide) ⟨Nat.zero_le _, Nat.zero_le _⟩ (Nat.le_of_ble_eq_true rfl) (fun x2 l2 u2 hp2 => ?_)
  have hq2 := hp2
  refine zs_if_ne (tgt := 12) (pc := 5) C dX1_value_5 (by decide) (fun h5 => ?_) (fun h5 => ?_)
  · skip
    refine zs_iconst (pc := 12) C dX1_value_12 (by decide) ?_
    refine zs_istore_n (pc := 13) C dX1_value_13 (by decide) ?_
    dsimp only [zset, zclr, znone]
    refine zs_aload_n (pc := 14) C dX1_value_14 rfl ?_
    refine zs_getf (pc := 15) C dX1_value_15 w_X1_18 f_2_2 (by decide) ?_
    refine zs_iload_n (pc := 18) C dX1_value_18 rfl ?_
    refine zs_iald (r := 2016) (pc := 19) C dX1_value_19 a_16 (by decide) (by omega) rfl (r_2016 _) (fun v19 e19 l19 u19 => ?_)
    refine zs_istore_n (pc := 20) C dX1_value_20 (by decide) ?_
    dsimp only [zset, zclr, znone]
    have L21 : ∀ (nn : Nat) (x2 x3 : Int) (G1 : zH), (0 ≤ x2 ∧ x2 ≤ 64) → (0 ≤ x3 ∧ x3 ≤ 64) → (zsm [] G G1) → (64 - x3).toNat < nn → Z p l e (zrm 1) s m args below meth c Γ 8 0 0 (MQ below (zQc Γ (zpj (fun x G' => zsm [] G G' ∧ True))) args s 0 0 (zA Γ)) 21 [some (zr 2 w), some (zi k), some (zi x2), some (zi x3), none, none, none, none] [] G1 := by
      intro nn
      induction nn with
      | zero => intro x2 x3 G1 h21_0 h21_1 h21_2 hm; exact absurd hm (Nat.not_lt_zero _)
      | succ nn ih21 =>
        intro x2 x3 G1 h21_0 h21_1 h21_2 hm21
        refine zs_iload_n (pc := 21) C dX1_value_21 rfl ?_
        refine zs_aload_n (pc := 22) C dX1_value_22 rfl ?_
        refine zs_getf (pc := 23) C dX1_value_23 w_X1_21 f_2_3 (by decide) ?_
        refine zs_iload_n (pc := 26) C dX1_value_26 rfl ?_
        refine zs_iald (r := 2017) (pc := 27) C dX1_value_27 a_17 (by decide) (by omega) rfl (r_2017 _) (fun v27 e27 l27 u27 => ?_)
        refine zs_icmp_ge (tgt := 215) (pc := 28) C dX1_value_28 (by decide) (fun h28 => ?_) (fun h28 => ?_)
        · skip
          refine zs_aload_n (pc := 215) C dX1_value_215 rfl ?_
          refine zs_getf (pc := 216) C dX1_value_216 w_X1_28 f_2_5 (by decide) ?_
          refine zs_iconst (pc := 219) C dX1_value_219 (by decide) ?_
          refine zs_lald (r := 2019) (pc := 220) C dX1_value_220 a_19 (by decide) (by omega) rfl (fun v220 e220 l220 u220 => ?_)
          exact zs_lret (pc := 221) C hr hlk dX1_value_221 ⟨by repeat (first | exact zsm_rf | assumption | refine zsm_C (by decide) ?_ | refine zsm_I (by decide) ?_ | refine zsm_J ?_ | refine zsm_c (by assumption) (by decide) ?_), trivial⟩
        · skip
          refine zs_iload_n (pc := 31) C dX1_value_31 rfl ?_
          refine zs_bipush (pc := 32) C dX1_value_32 (by decide) (by decide) ?_
          refine zs_icmp_ge (tgt := 215) (pc := 34) C dX1_value_34 (by decide) (fun h34 => ?_) (fun h34 => ?_)
          · skip
            refine zs_aload_n (pc := 215) C dX1_value_215 rfl ?_
            refine zs_getf (pc := 216) C dX1_value_216 w_X1_28 f_2_5 (by decide) ?_
            refine zs_iconst (pc := 219) C dX1_value_219 (by decide) ?_
            refine zs_lald (r := 2019) (pc := 220) C dX1_value_220 a_19 (by decide) (by omega) rfl (fun v220 e220 l220 u220 => ?_)
            exact zs_lret (pc := 221) C hr hlk dX1_value_221 ⟨by repeat (first | exact zsm_rf | assumption | refine zsm_C (by decide) ?_ | refine zsm_I (by decide) ?_ | refine zsm_J ?_ | refine zsm_c (by assumption) (by decide) ?_), trivial⟩
          · skip
            refine zs_aload_n (pc := 37) C dX1_value_37 rfl ?_
            refine zs_getf (pc := 38) C dX1_value_38 w_X1_11 f_2_0 (by decide) ?_
            refine zs_iload_n (pc := 41) C dX1_value_41 rfl ?_
            refine zs_iald (r := 2014) (pc := 42) C dX1_value_42 a_14 (by decide) (by omega) rfl (r_2014 _) (fun v42 e42 l42 u42 => ?_)
            refine zs_istore (pc := 43) C dX1_value_43 (by decide) ?_
            dsimp only [zset, zclr, znone]
            refine zs_aload_n (pc := 45) C dX1_value_45 rfl ?_
            refine zs_getf (pc := 46) C dX1_value_46 w_X1_15 f_2_1 (by decide) ?_
            refine zs_iload_n (pc := 49) C dX1_value_49 rfl ?_
            refine zs_iald (r := 2015) (pc := 50) C dX1_value_50 a_15 (by decide) (by omega) rfl (r_2015 _) (fun v50 e50 l50 u50 => ?_)
            refine zs_istore (pc := 51) C dX1_value_51 (by decide) ?_
            dsimp only [zset, zclr, znone]
            refine zs_iload (pc := 53) C dX1_value_53 rfl ?_
            refine zs_iconst (pc := 55) C dX1_value_55 (by decide) ?_
            refine zs_icmp_gt (tgt := 108) (pc := 56) C dX1_value_56 (by decide) (fun h56 => ?_) (fun h56 => ?_)
            · skip
              refine zs_iload (pc := 108) C dX1_value_108 rfl ?_
              refine zs_iconst (pc := 110) C dX1_value_110 (by decide) ?_
              refine zs_icmp_ne (tgt := 148) (pc := 111) C dX1_value_111 (by decide) (fun h111 => ?_) (fun h111 => ?_)
              · skip
                refine zs_iload_n (pc := 148) C dX1_value_148 rfl ?_
                refine zs_iconst (pc := 149) C dX1_value_149 (by decide) ?_
                refine zs_icmp_lt (tgt := 209) (pc := 150) C dX1_value_150 (by decide) (fun h150 => ?_) (fun h150 => ?_)
                · skip
                  first | refine zs_iinc (pc := 209) C dX1_value_209 rfl (by decide) (by omega) ?_ | refine zs_iincF (pc := 209) C dX1_value_209 rfl (by decide) (fun z209 hz2091 hz2092 => ?_)
                  dsimp only [zset, zclr, znone]
                  refine zs_goto (tgt := 21) (pc := 212) C dX1_value_212 (by decide) ?_
                  exact zs_wk (ih21 _ _ _ (by first | omega | (simp only [zuI_1, zuI_2, zuJ_1, zuJ_2, zuJ_3, zuP_1, zuP_2, zuP_3, zuC_1, zuC_2, reduceIte, Nat.reduceEqDiff, false_and, and_false, true_and, and_true, and_self, or_true, true_or, or_false, false_or]; omega)) (by first | omega | (simp only [zuI_1, zuI_2, zuJ_1, zuJ_2, zuJ_3, zuP_1, zuP_2, zuP_3, zuC_1, zuC_2, reduceIte, Nat.reduceEqDiff, false_and, and_false, true_and, and_true, and_self, or_true, true_or, or_false, false_or]; omega)) (by repeat (first | exact zsm_rf | assumption | refine zsm_C (by decide) ?_ | refine zsm_I (by decide) ?_ | refine zsm_J ?_ | refine zsm_c (by assumption) (by decide) ?_)) (by first | omega | (simp only [zuI_1, zuI_2, zuJ_1, zuJ_2, zuJ_3, zuP_1, zuP_2, zuP_3, zuC_1, zuC_2, reduceIte, Nat.reduceEqDiff, false_and, and_false, true_and, and_true, and_self, or_true, true_or, or_false, false_or]; omega))) (zwk_s rfl (zwk_s rfl (zwk_s rfl (zwk_s rfl (zwk_n (zwk_n (zwk_n (zwk_n zwk_0))))))))
                · skip
                  first | refine zs_iinc (pc := 153) C dX1_value_153 rfl (by decide) (by omega) ?_ | refine zs_iincF (pc := 153) C dX1_value_153 rfl (by decide) (fun z153 hz1531 hz1532 => ?_)
                  dsimp only [zset, zclr, znone]
                  refine zs_iload (pc := 156) C dX1_value_156 rfl ?_
                  refine zs_aload_n (pc := 158) C dX1_value_158 rfl ?_
                  refine zs_getf (pc := 159) C dX1_value_159 w_X1_28 f_2_5 (by decide) ?_
                  refine zs_iload_n (pc := 162) C dX1_value_162 rfl ?_
                  refine zs_iconst (pc := 163) C dX1_value_163 (by decide) ?_
                  first | refine zs_isub (pc := 164) C dX1_value_164 (by omega) ?_ | refine zs_isubF (pc := 164) C dX1_value_164 (fun z164 hz1641 hz1642 => ?_)
                  refine zs_lald (r := 2019) (pc := 165) C dX1_value_165 a_19 (by decide) (by omega) rfl (fun v165 e165 l165 u165 => ?_)
                  refine zs_aload_n (pc := 166) C dX1_value_166 rfl ?_
                  refine zs_getf (pc := 167) C dX1_value_167 w_X1_28 f_2_5 (by decide) ?_
                  refine zs_iload_n (pc := 170) C dX1_value_170 rfl ?_
                  refine zs_lald (r := 2019) (pc := 171) C dX1_value_171 a_19 (by decide) (by omega) rfl (fun v171 e171 l171 u171 => ?_)
                  refine zSjp3 (pc := 172) C dX1_value_172 s_X1_50 (c_X1_join hX ) (by decide) ⟨Nat.zero_le _, Nat.zero_le _⟩ (Nat.le_of_ble_eq_true rfl) (fun x172 l172 u172 hp172 => ?_)
                  have hq172 := hp172
                  refine zs_lstore (pc := 175) C dX1_value_175 (by decide) ?_
                  dsimp only [zset, zclr, znone]
                  refine zs_lload (pc := 177) C dX1_value_177 rfl ?_
                  refine zs_ldc2 (n := 1000000000000) (pc := 179) C dX1_value_179 q_X1_54 (by decide) (by decide) ?_
                  refine zs_lcmp (pc := 182) C dX1_value_182 (fun z182 hz182 => ?_)
                  refine zs_if_gt (tgt := 195) (pc := 183) C dX1_value_183 (by decide) (fun h183 => ?_) (fun h183 => ?_)
                  · skip
                    refine zs_ldc2 (n := -9223372036854775808) (pc := 195) C dX1_value_195 q_X1_48 (by decide) (by decide) ?_
                    exact zs_lret (pc := 198) C hr hlk dX1_value_198 ⟨by repeat (first | exact zsm_rf | assumption | refine zsm_C (by decide) ?_ | refine zsm_I (by decide) ?_ | refine zsm_J ?_ | refine zsm_c (by assumption) (by decide) ?_), trivial⟩
                  · skip
                    refine zs_lload (pc := 186) C dX1_value_186 rfl ?_
                    refine zs_ldc2 (n := -1000000000000) (pc := 188) C dX1_value_188 q_X1_56 (by decide) (by decide) ?_
                    refine zs_lcmp (pc := 191) C dX1_value_191 (fun z191 hz191 => ?_)
                    refine zs_if_ge (tgt := 199) (pc := 192) C dX1_value_192 (by decide) (fun h192 => ?_) (fun h192 => ?_)
                    · skip
                      refine zs_aload_n (pc := 199) C dX1_value_199 rfl ?_
                      refine zs_getf (pc := 200) C dX1_value_200 w_X1_28 f_2_5 (by decide) ?_
                      refine zs_iload_n (pc := 203) C dX1_value_203 rfl ?_
                      refine zs_iconst (pc := 204) C dX1_value_204 (by decide) ?_
                      first | refine zs_isub (pc := 205) C dX1_value_205 (by omega) ?_ | refine zs_isubF (pc := 205) C dX1_value_205 (fun z205 hz2051 hz2052 => ?_)
                      refine zs_lload (pc := 206) C dX1_value_206 rfl ?_
                      refine zs_last (r := 2019) (pc := 208) C dX1_value_208 a_19 (by decide) (by omega) rfl ?_
                      first | refine zs_iinc (pc := 209) C dX1_value_209 rfl (by decide) (by omega) ?_ | refine zs_iincF (pc := 209) C dX1_value_209 rfl (by decide) (fun z209 hz2091 hz2092 => ?_)
                      dsimp only [zset, zclr, znone]
                      refine zs_goto (tgt := 21) (pc := 212) C dX1_value_212 (by decide) ?_
                      exact zs_wk (ih21 _ _ _ (by first | omega | (simp only [zuI_1, zuI_2, zuJ_1, zuJ_2, zuJ_3, zuP_1, zuP_2, zuP_3, zuC_1, zuC_2, reduceIte, Nat.reduceEqDiff, false_and, and_false, true_and, and_true, and_self, or_true, true_or, or_false, false_or]; omega)) (by first | omega | (simp only [zuI_1, zuI_2, zuJ_1, zuJ_2, zuJ_3, zuP_1, zuP_2, zuP_3, zuC_1, zuC_2, reduceIte, Nat.reduceEqDiff, false_and, and_false, true_and, and_true, and_self, or_true, true_or, or_false, false_or]; omega)) (by repeat (first | exact zsm_rf | assumption | refine zsm_C (by decide) ?_ | refine zsm_I (by decide) ?_ | refine zsm_J ?_ | refine zsm_c (by assumption) (by decide) ?_)) (by first | omega | (simp only [zuI_1, zuI_2, zuJ_1, zuJ_2, zuJ_3, zuP_1, zuP_2, zuP_3, zuC_1, zuC_2, reduceIte, Nat.reduceEqDiff, false_and, and_false, true_and, and_true, and_self, or_true, true_or, or_false, false_or]; omega))) (zwk_s rfl (zwk_s rfl (zwk_s rfl (zwk_s rfl (zwk_n (zwk_n (zwk_n (zwk_n zwk_0))))))))
                    · skip
                      refine zs_ldc2 (n := -9223372036854775808) (pc := 195) C dX1_value_195 q_X1_48 (by decide) (by decide) ?_
                      exact zs_lret (pc := 198) C hr hlk dX1_value_198 ⟨by repeat (first | exact zsm_rf | assumption | refine zsm_C (by decide) ?_ | refine zsm_I (by decide) ?_ | refine zsm_J ?_ | refine zsm_c (by assumption) (by decide) ?_), trivial⟩
              · skip
                refine zs_iload_n (pc := 114) C dX1_value_114 rfl ?_
                refine zs_iconst (pc := 115) C dX1_value_115 (by decide) ?_
                refine zs_icmp_lt (tgt := 148) (pc := 116) C dX1_value_116 (by decide) (fun h116 => ?_) (fun h116 => ?_)
                · skip
                  refine zs_iload_n (pc := 148) C dX1_value_148 rfl ?_
                  refine zs_iconst (pc := 149) C dX1_value_149 (by decide) ?_
                  refine zs_icmp_lt (tgt := 209) (pc := 150) C dX1_value_150 (by decide) (fun h150 => ?_) (fun h150 => ?_)
                  · skip
                    first | refine zs_iinc (pc := 209) C dX1_value_209 rfl (by decide) (by omega) ?_ | refine zs_iincF (pc := 209) C dX1_value_209 rfl (by decide) (fun z209 hz2091 hz2092 => ?_)
                    dsimp only [zset, zclr, znone]
                    refine zs_goto (tgt := 21) (pc := 212) C dX1_value_212 (by decide) ?_
                    exact zs_wk (ih21 _ _ _ (by first | omega | (simp only [zuI_1, zuI_2, zuJ_1, zuJ_2, zuJ_3, zuP_1, zuP_2, zuP_3, zuC_1, zuC_2, reduceIte, Nat.reduceEqDiff, false_and, and_false, true_and, and_true, and_self, or_true, true_or, or_false, false_or]; omega)) (by first | omega | (simp only [zuI_1, zuI_2, zuJ_1, zuJ_2, zuJ_3, zuP_1, zuP_2, zuP_3, zuC_1, zuC_2, reduceIte, Nat.reduceEqDiff, false_and, and_false, true_and, and_true, and_self, or_true, true_or, or_false, false_or]; omega)) (by repeat (first | exact zsm_rf | assumption | refine zsm_C (by decide) ?_ | refine zsm_I (by decide) ?_ | refine zsm_J ?_ | refine zsm_c (by assumption) (by decide) ?_)) (by first | omega | (simp only [zuI_1, zuI_2, zuJ_1, zuJ_2, zuJ_3, zuP_1, zuP_2, zuP_3, zuC_1, zuC_2, reduceIte, Nat.reduceEqDiff, false_and, and_false, true_and, and_true, and_self, or_true, true_or, or_false, false_or]; omega))) (zwk_s rfl (zwk_s rfl (zwk_s rfl (zwk_s rfl (zwk_n (zwk_n (zwk_n (zwk_n zwk_0))))))))
                  · skip
                    first | refine zs_iinc (pc := 153) C dX1_value_153 rfl (by decide) (by omega) ?_ | refine zs_iincF (pc := 153) C dX1_value_153 rfl (by decide) (fun z153 hz1531 hz1532 => ?_)
                    dsimp only [zset, zclr, znone]
                    refine zs_iload (pc := 156) C dX1_value_156 rfl ?_
                    refine zs_aload_n (pc := 158) C dX1_value_158 rfl ?_
                    refine zs_getf (pc := 159) C dX1_value_159 w_X1_28 f_2_5 (by decide) ?_
                    refine zs_iload_n (pc := 162) C dX1_value_162 rfl ?_
                    refine zs_iconst (pc := 163) C dX1_value_163 (by decide) ?_
                    first | refine zs_isub (pc := 164) C dX1_value_164 (by omega) ?_ | refine zs_isubF (pc := 164) C dX1_value_164 (fun z164 hz1641 hz1642 => ?_)
                    refine zs_lald (r := 2019) (pc := 165) C dX1_value_165 a_19 (by decide) (by omega) rfl (fun v165 e165 l165 u165 => ?_)
                    refine zs_aload_n (pc := 166) C dX1_value_166 rfl ?_
                    refine zs_getf (pc := 167) C dX1_value_167 w_X1_28 f_2_5 (by decide) ?_
                    refine zs_iload_n (pc := 170) C dX1_value_170 rfl ?_
                    refine zs_lald (r := 2019) (pc := 171) C dX1_value_171 a_19 (by decide) (by omega) rfl (fun v171 e171 l171 u171 => ?_)
                    refine zSjp3 (pc := 172) C dX1_value_172 s_X1_50 (c_X1_join hX ) (by decide) ⟨Nat.zero_le _, Nat.zero_le _⟩ (Nat.le_of_ble_eq_true rfl) (fun x172 l172 u172 hp172 => ?_)
                    have hq172 := hp172
                    refine zs_lstore (pc := 175) C dX1_value_175 (by decide) ?_
                    dsimp only [zset, zclr, znone]
                    refine zs_lload (pc := 177) C dX1_value_177 rfl ?_
                    refine zs_ldc2 (n := 1000000000000) (pc := 179) C dX1_value_179 q_X1_54 (by decide) (by decide) ?_
                    refine zs_lcmp (pc := 182) C dX1_value_182 (fun z182 hz182 => ?_)
                    refine zs_if_gt (tgt := 195) (pc := 183) C dX1_value_183 (by decide) (fun h183 => ?_) (fun h183 => ?_)
                    · skip
                      refine zs_ldc2 (n := -9223372036854775808) (pc := 195) C dX1_value_195 q_X1_48 (by decide) (by decide) ?_
                      exact zs_lret (pc := 198) C hr hlk dX1_value_198 ⟨by repeat (first | exact zsm_rf | assumption | refine zsm_C (by decide) ?_ | refine zsm_I (by decide) ?_ | refine zsm_J ?_ | refine zsm_c (by assumption) (by decide) ?_), trivial⟩
                    · skip
                      refine zs_lload (pc := 186) C dX1_value_186 rfl ?_
                      refine zs_ldc2 (n := -1000000000000) (pc := 188) C dX1_value_188 q_X1_56 (by decide) (by decide) ?_
                      refine zs_lcmp (pc := 191) C dX1_value_191 (fun z191 hz191 => ?_)
                      refine zs_if_ge (tgt := 199) (pc := 192) C dX1_value_192 (by decide) (fun h192 => ?_) (fun h192 => ?_)
                      · skip
                        refine zs_aload_n (pc := 199) C dX1_value_199 rfl ?_
                        refine zs_getf (pc := 200) C dX1_value_200 w_X1_28 f_2_5 (by decide) ?_
                        refine zs_iload_n (pc := 203) C dX1_value_203 rfl ?_
                        refine zs_iconst (pc := 204) C dX1_value_204 (by decide) ?_
                        first | refine zs_isub (pc := 205) C dX1_value_205 (by omega) ?_ | refine zs_isubF (pc := 205) C dX1_value_205 (fun z205 hz2051 hz2052 => ?_)
                        refine zs_lload (pc := 206) C dX1_value_206 rfl ?_
                        refine zs_last (r := 2019) (pc := 208) C dX1_value_208 a_19 (by decide) (by omega) rfl ?_
                        first | refine zs_iinc (pc := 209) C dX1_value_209 rfl (by decide) (by omega) ?_ | refine zs_iincF (pc := 209) C dX1_value_209 rfl (by decide) (fun z209 hz2091 hz2092 => ?_)
                        dsimp only [zset, zclr, znone]
                        refine zs_goto (tgt := 21) (pc := 212) C dX1_value_212 (by decide) ?_
                        exact zs_wk (ih21 _ _ _ (by first | omega | (simp only [zuI_1, zuI_2, zuJ_1, zuJ_2, zuJ_3, zuP_1, zuP_2, zuP_3, zuC_1, zuC_2, reduceIte, Nat.reduceEqDiff, false_and, and_false, true_and, and_true, and_self, or_true, true_or, or_false, false_or]; omega)) (by first | omega | (simp only [zuI_1, zuI_2, zuJ_1, zuJ_2, zuJ_3, zuP_1, zuP_2, zuP_3, zuC_1, zuC_2, reduceIte, Nat.reduceEqDiff, false_and, and_false, true_and, and_true, and_self, or_true, true_or, or_false, false_or]; omega)) (by repeat (first | exact zsm_rf | assumption | refine zsm_C (by decide) ?_ | refine zsm_I (by decide) ?_ | refine zsm_J ?_ | refine zsm_c (by assumption) (by decide) ?_)) (by first | omega | (simp only [zuI_1, zuI_2, zuJ_1, zuJ_2, zuJ_3, zuP_1, zuP_2, zuP_3, zuC_1, zuC_2, reduceIte, Nat.reduceEqDiff, false_and, and_false, true_and, and_true, and_self, or_true, true_or, or_false, false_or]; omega))) (zwk_s rfl (zwk_s rfl (zwk_s rfl (zwk_s rfl (zwk_n (zwk_n (zwk_n (zwk_n zwk_0))))))))
                      · skip
                        refine zs_ldc2 (n := -9223372036854775808) (pc := 195) C dX1_value_195 q_X1_48 (by decide) (by decide) ?_
                        exact zs_lret (pc := 198) C hr hlk dX1_value_198 ⟨by repeat (first | exact zsm_rf | assumption | refine zsm_C (by decide) ?_ | refine zsm_I (by decide) ?_ | refine zsm_J ?_ | refine zsm_c (by assumption) (by decide) ?_), trivial⟩
                · skip
                  refine zs_aload_n (pc := 119) C dX1_value_119 rfl ?_
                  refine zs_getf (pc := 120) C dX1_value_120 w_X1_28 f_2_5 (by decide) ?_
                  refine zs_iload_n (pc := 123) C dX1_value_123 rfl ?_
                  refine zs_iconst (pc := 124) C dX1_value_124 (by decide) ?_
                  first | refine zs_isub (pc := 125) C dX1_value_125 (by omega) ?_ | refine zs_isubF (pc := 125) C dX1_value_125 (fun z125 hz1251 hz1252 => ?_)
                  refine zs_aload_n (pc := 126) C dX1_value_126 rfl ?_
                  refine zs_getf (pc := 127) C dX1_value_127 w_X1_28 f_2_5 (by decide) ?_
                  refine zs_iload_n (pc := 130) C dX1_value_130 rfl ?_
                  refine zs_iconst (pc := 131) C dX1_value_131 (by decide) ?_
                  first | refine zs_isub (pc := 132) C dX1_value_132 (by omega) ?_ | refine zs_isubF (pc := 132) C dX1_value_132 (fun z132 hz1321 hz1322 => ?_)
                  refine zs_lald (r := 2019) (pc := 133) C dX1_value_133 a_19 (by decide) (by omega) rfl (fun v133 e133 l133 u133 => ?_)
                  refine zs_lconst (n := 0) (pc := 134) C dX1_value_134 rfl (by decide) ?_
                  refine zs_lcmp (pc := 135) C dX1_value_135 (fun z135 hz135 => ?_)
                  refine zs_if_ne (tgt := 143) (pc := 136) C dX1_value_136 (by decide) (fun h136 => ?_) (fun h136 => ?_)
                  · skip
                    refine zs_lconst (n := 0) (pc := 143) C dX1_value_143 rfl (by decide) ?_
                    refine zs_last (r := 2019) (pc := 144) C dX1_value_144 a_19 (by decide) (by omega) rfl ?_
                    refine zs_goto (tgt := 209) (pc := 145) C dX1_value_145 (by decide) ?_
                    first | refine zs_iinc (pc := 209) C dX1_value_209 rfl (by decide) (by omega) ?_ | refine zs_iincF (pc := 209) C dX1_value_209 rfl (by decide) (fun z209 hz2091 hz2092 => ?_)
                    dsimp only [zset, zclr, znone]
                    refine zs_goto (tgt := 21) (pc := 212) C dX1_value_212 (by decide) ?_
                    exact zs_wk (ih21 _ _ _ (by first | omega | (simp only [zuI_1, zuI_2, zuJ_1, zuJ_2, zuJ_3, zuP_1, zuP_2, zuP_3, zuC_1, zuC_2, reduceIte, Nat.reduceEqDiff, false_and, and_false, true_and, and_true, and_self, or_true, true_or, or_false, false_or]; omega)) (by first | omega | (simp only [zuI_1, zuI_2, zuJ_1, zuJ_2, zuJ_3, zuP_1, zuP_2, zuP_3, zuC_1, zuC_2, reduceIte, Nat.reduceEqDiff, false_and, and_false, true_and, and_true, and_self, or_true, true_or, or_false, false_or]; omega)) (by repeat (first | exact zsm_rf | assumption | refine zsm_C (by decide) ?_ | refine zsm_I (by decide) ?_ | refine zsm_J ?_ | refine zsm_c (by assumption) (by decide) ?_)) (by first | omega | (simp only [zuI_1, zuI_2, zuJ_1, zuJ_2, zuJ_3, zuP_1, zuP_2, zuP_3, zuC_1, zuC_2, reduceIte, Nat.reduceEqDiff, false_and, and_false, true_and, and_true, and_self, or_true, true_or, or_false, false_or]; omega))) (zwk_s rfl (zwk_s rfl (zwk_s rfl (zwk_s rfl (zwk_n (zwk_n (zwk_n (zwk_n zwk_0))))))))
                  · skip
                    refine zs_lconst (n := 1) (pc := 139) C dX1_value_139 rfl (by decide) ?_
                    refine zs_goto (tgt := 144) (pc := 140) C dX1_value_140 (by decide) ?_
                    refine zs_last (r := 2019) (pc := 144) C dX1_value_144 a_19 (by decide) (by omega) rfl ?_
                    refine zs_goto (tgt := 209) (pc := 145) C dX1_value_145 (by decide) ?_
                    first | refine zs_iinc (pc := 209) C dX1_value_209 rfl (by decide) (by omega) ?_ | refine zs_iincF (pc := 209) C dX1_value_209 rfl (by decide) (fun z209 hz2091 hz2092 => ?_)
                    dsimp only [zset, zclr, znone]
                    refine zs_goto (tgt := 21) (pc := 212) C dX1_value_212 (by decide) ?_
                    exact zs_wk (ih21 _ _ _ (by first | omega | (simp only [zuI_1, zuI_2, zuJ_1, zuJ_2, zuJ_3, zuP_1, zuP_2, zuP_3, zuC_1, zuC_2, reduceIte, Nat.reduceEqDiff, false_and, and_false, true_and, and_true, and_self, or_true, true_or, or_false, false_or]; omega)) (by first | omega | (simp only [zuI_1, zuI_2, zuJ_1, zuJ_2, zuJ_3, zuP_1, zuP_2, zuP_3, zuC_1, zuC_2, reduceIte, Nat.reduceEqDiff, false_and, and_false, true_and, and_true, and_self, or_true, true_or, or_false, false_or]; omega)) (by repeat (first | exact zsm_rf | assumption | refine zsm_C (by decide) ?_ | refine zsm_I (by decide) ?_ | refine zsm_J ?_ | refine zsm_c (by assumption) (by decide) ?_)) (by first | omega | (simp only [zuI_1, zuI_2, zuJ_1, zuJ_2, zuJ_3, zuP_1, zuP_2, zuP_3, zuC_1, zuC_2, reduceIte, Nat.reduceEqDiff, false_and, and_false, true_and, and_true, and_self, or_true, true_or, or_false, false_or]; omega))) (zwk_s rfl (zwk_s rfl (zwk_s rfl (zwk_s rfl (zwk_n (zwk_n (zwk_n (zwk_n zwk_0))))))))
            · skip
              refine zs_iload_n (pc := 59) C dX1_value_59 rfl ?_
              refine zs_bipush (pc := 60) C dX1_value_60 (by decide) (by decide) ?_
              refine zs_icmp_ge (tgt := 108) (pc := 62) C dX1_value_62 (by decide) (fun h62 => ?_) (fun h62 => ?_)
              · skip
                refine zs_iload (pc := 108) C dX1_value_108 rfl ?_
                refine zs_iconst (pc := 110) C dX1_value_110 (by decide) ?_
                refine zs_icmp_ne (tgt := 148) (pc := 111) C dX1_value_111 (by decide) (fun h111 => ?_) (fun h111 => ?_)
                · skip
                  refine zs_iload_n (pc := 148) C dX1_value_148 rfl ?_
                  refine zs_iconst (pc := 149) C dX1_value_149 (by decide) ?_
                  refine zs_icmp_lt (tgt := 209) (pc := 150) C dX1_value_150 (by decide) (fun h150 => ?_) (fun h150 => ?_)
                  · skip
                    first | refine zs_iinc (pc := 209) C dX1_value_209 rfl (by decide) (by omega) ?_ | refine zs_iincF (pc := 209) C dX1_value_209 rfl (by decide) (fun z209 hz2091 hz2092 => ?_)
                    dsimp only [zset, zclr, znone]
                    refine zs_goto (tgt := 21) (pc := 212) C dX1_value_212 (by decide) ?_
                    exact zs_wk (ih21 _ _ _ (by first | omega | (simp only [zuI_1, zuI_2, zuJ_1, zuJ_2, zuJ_3, zuP_1, zuP_2, zuP_3, zuC_1, zuC_2, reduceIte, Nat.reduceEqDiff, false_and, and_false, true_and, and_true, and_self, or_true, true_or, or_false, false_or]; omega)) (by first | omega | (simp only [zuI_1, zuI_2, zuJ_1, zuJ_2, zuJ_3, zuP_1, zuP_2, zuP_3, zuC_1, zuC_2, reduceIte, Nat.reduceEqDiff, false_and, and_false, true_and, and_true, and_self, or_true, true_or, or_false, false_or]; omega)) (by repeat (first | exact zsm_rf | assumption | refine zsm_C (by decide) ?_ | refine zsm_I (by decide) ?_ | refine zsm_J ?_ | refine zsm_c (by assumption) (by decide) ?_)) (by first | omega | (simp only [zuI_1, zuI_2, zuJ_1, zuJ_2, zuJ_3, zuP_1, zuP_2, zuP_3, zuC_1, zuC_2, reduceIte, Nat.reduceEqDiff, false_and, and_false, true_and, and_true, and_self, or_true, true_or, or_false, false_or]; omega))) (zwk_s rfl (zwk_s rfl (zwk_s rfl (zwk_s rfl (zwk_n (zwk_n (zwk_n (zwk_n zwk_0))))))))
                  · skip
                    first | refine zs_iinc (pc := 153) C dX1_value_153 rfl (by decide) (by omega) ?_ | refine zs_iincF (pc := 153) C dX1_value_153 rfl (by decide) (fun z153 hz1531 hz1532 => ?_)
                    dsimp only [zset, zclr, znone]
                    refine zs_iload (pc := 156) C dX1_value_156 rfl ?_
                    refine zs_aload_n (pc := 158) C dX1_value_158 rfl ?_
                    refine zs_getf (pc := 159) C dX1_value_159 w_X1_28 f_2_5 (by decide) ?_
                    refine zs_iload_n (pc := 162) C dX1_value_162 rfl ?_
                    refine zs_iconst (pc := 163) C dX1_value_163 (by decide) ?_
                    first | refine zs_isub (pc := 164) C dX1_value_164 (by omega) ?_ | refine zs_isubF (pc := 164) C dX1_value_164 (fun z164 hz1641 hz1642 => ?_)
                    refine zs_lald (r := 2019) (pc := 165) C dX1_value_165 a_19 (by decide) (by omega) rfl (fun v165 e165 l165 u165 => ?_)
                    refine zs_aload_n (pc := 166) C dX1_value_166 rfl ?_
                    refine zs_getf (pc := 167) C dX1_value_167 w_X1_28 f_2_5 (by decide) ?_
                    refine zs_iload_n (pc := 170) C dX1_value_170 rfl ?_
                    refine zs_lald (r := 2019) (pc := 171) C dX1_value_171 a_19 (by decide) (by omega) rfl (fun v171 e171 l171 u171 => ?_)
                    refine zSjp3 (pc := 172) C dX1_value_172 s_X1_50 (c_X1_join hX ) (by decide) ⟨Nat.zero_le _, Nat.zero_le _⟩ (Nat.le_of_ble_eq_true rfl) (fun x172 l172 u172 hp172 => ?_)
                    have hq172 := hp172
                    refine zs_lstore (pc := 175) C dX1_value_175 (by decide) ?_
                    dsimp only [zset, zclr, znone]
                    refine zs_lload (pc := 177) C dX1_value_177 rfl ?_
                    refine zs_ldc2 (n := 1000000000000) (pc := 179) C dX1_value_179 q_X1_54 (by decide) (by decide) ?_
                    refine zs_lcmp (pc := 182) C dX1_value_182 (fun z182 hz182 => ?_)
                    refine zs_if_gt (tgt := 195) (pc := 183) C dX1_value_183 (by decide) (fun h183 => ?_) (fun h183 => ?_)
                    · skip
                      refine zs_ldc2 (n := -9223372036854775808) (pc := 195) C dX1_value_195 q_X1_48 (by decide) (by decide) ?_
                      exact zs_lret (pc := 198) C hr hlk dX1_value_198 ⟨by repeat (first | exact zsm_rf | assumption | refine zsm_C (by decide) ?_ | refine zsm_I (by decide) ?_ | refine zsm_J ?_ | refine zsm_c (by assumption) (by decide) ?_), trivial⟩
                    · skip
                      refine zs_lload (pc := 186) C dX1_value_186 rfl ?_
                      refine zs_ldc2 (n := -1000000000000) (pc := 188) C dX1_value_188 q_X1_56 (by decide) (by decide) ?_
                      refine zs_lcmp (pc := 191) C dX1_value_191 (fun z191 hz191 => ?_)
                      refine zs_if_ge (tgt := 199) (pc := 192) C dX1_value_192 (by decide) (fun h192 => ?_) (fun h192 => ?_)
                      · skip
                        refine zs_aload_n (pc := 199) C dX1_value_199 rfl ?_
                        refine zs_getf (pc := 200) C dX1_value_200 w_X1_28 f_2_5 (by decide) ?_
                        refine zs_iload_n (pc := 203) C dX1_value_203 rfl ?_
                        refine zs_iconst (pc := 204) C dX1_value_204 (by decide) ?_
                        first | refine zs_isub (pc := 205) C dX1_value_205 (by omega) ?_ | refine zs_isubF (pc := 205) C dX1_value_205 (fun z205 hz2051 hz2052 => ?_)
                        refine zs_lload (pc := 206) C dX1_value_206 rfl ?_
                        refine zs_last (r := 2019) (pc := 208) C dX1_value_208 a_19 (by decide) (by omega) rfl ?_
                        first | refine zs_iinc (pc := 209) C dX1_value_209 rfl (by decide) (by omega) ?_ | refine zs_iincF (pc := 209) C dX1_value_209 rfl (by decide) (fun z209 hz2091 hz2092 => ?_)
                        dsimp only [zset, zclr, znone]
                        refine zs_goto (tgt := 21) (pc := 212) C dX1_value_212 (by decide) ?_
                        exact zs_wk (ih21 _ _ _ (by first | omega | (simp only [zuI_1, zuI_2, zuJ_1, zuJ_2, zuJ_3, zuP_1, zuP_2, zuP_3, zuC_1, zuC_2, reduceIte, Nat.reduceEqDiff, false_and, and_false, true_and, and_true, and_self, or_true, true_or, or_false, false_or]; omega)) (by first | omega | (simp only [zuI_1, zuI_2, zuJ_1, zuJ_2, zuJ_3, zuP_1, zuP_2, zuP_3, zuC_1, zuC_2, reduceIte, Nat.reduceEqDiff, false_and, and_false, true_and, and_true, and_self, or_true, true_or, or_false, false_or]; omega)) (by repeat (first | exact zsm_rf | assumption | refine zsm_C (by decide) ?_ | refine zsm_I (by decide) ?_ | refine zsm_J ?_ | refine zsm_c (by assumption) (by decide) ?_)) (by first | omega | (simp only [zuI_1, zuI_2, zuJ_1, zuJ_2, zuJ_3, zuP_1, zuP_2, zuP_3, zuC_1, zuC_2, reduceIte, Nat.reduceEqDiff, false_and, and_false, true_and, and_true, and_self, or_true, true_or, or_false, false_or]; omega))) (zwk_s rfl (zwk_s rfl (zwk_s rfl (zwk_s rfl (zwk_n (zwk_n (zwk_n (zwk_n zwk_0))))))))
                      · skip
                        refine zs_ldc2 (n := -9223372036854775808) (pc := 195) C dX1_value_195 q_X1_48 (by decide) (by decide) ?_
                        exact zs_lret (pc := 198) C hr hlk dX1_value_198 ⟨by repeat (first | exact zsm_rf | assumption | refine zsm_C (by decide) ?_ | refine zsm_I (by decide) ?_ | refine zsm_J ?_ | refine zsm_c (by assumption) (by decide) ?_), trivial⟩
                · skip
                  refine zs_iload_n (pc := 114) C dX1_value_114 rfl ?_
                  refine zs_iconst (pc := 115) C dX1_value_115 (by decide) ?_
                  refine zs_icmp_lt (tgt := 148) (pc := 116) C dX1_value_116 (by decide) (fun h116 => ?_) (fun h116 => ?_)
                  · skip
                    refine zs_iload_n (pc := 148) C dX1_value_148 rfl ?_
                    refine zs_iconst (pc := 149) C dX1_value_149 (by decide) ?_
                    refine zs_icmp_lt (tgt := 209) (pc := 150) C dX1_value_150 (by decide) (fun h150 => ?_) (fun h150 => ?_)
                    · skip
                      first | refine zs_iinc (pc := 209) C dX1_value_209 rfl (by decide) (by omega) ?_ | refine zs_iincF (pc := 209) C dX1_value_209 rfl (by decide) (fun z209 hz2091 hz2092 => ?_)
                      dsimp only [zset, zclr, znone]
                      refine zs_goto (tgt := 21) (pc := 212) C dX1_value_212 (by decide) ?_
                      exact zs_wk (ih21 _ _ _ (by first | omega | (simp only [zuI_1, zuI_2, zuJ_1, zuJ_2, zuJ_3, zuP_1, zuP_2, zuP_3, zuC_1, zuC_2, reduceIte, Nat.reduceEqDiff, false_and, and_false, true_and, and_true, and_self, or_true, true_or, or_false, false_or]; omega)) (by first | omega | (simp only [zuI_1, zuI_2, zuJ_1, zuJ_2, zuJ_3, zuP_1, zuP_2, zuP_3, zuC_1, zuC_2, reduceIte, Nat.reduceEqDiff, false_and, and_false, true_and, and_true, and_self, or_true, true_or, or_false, false_or]; omega)) (by repeat (first | exact zsm_rf | assumption | refine zsm_C (by decide) ?_ | refine zsm_I (by decide) ?_ | refine zsm_J ?_ | refine zsm_c (by assumption) (by decide) ?_)) (by first | omega | (simp only [zuI_1, zuI_2, zuJ_1, zuJ_2, zuJ_3, zuP_1, zuP_2, zuP_3, zuC_1, zuC_2, reduceIte, Nat.reduceEqDiff, false_and, and_false, true_and, and_true, and_self, or_true, true_or, or_false, false_or]; omega))) (zwk_s rfl (zwk_s rfl (zwk_s rfl (zwk_s rfl (zwk_n (zwk_n (zwk_n (zwk_n zwk_0))))))))
                    · skip
                      first | refine zs_iinc (pc := 153) C dX1_value_153 rfl (by decide) (by omega) ?_ | refine zs_iincF (pc := 153) C dX1_value_153 rfl (by decide) (fun z153 hz1531 hz1532 => ?_)
                      dsimp only [zset, zclr, znone]
                      refine zs_iload (pc := 156) C dX1_value_156 rfl ?_
                      refine zs_aload_n (pc := 158) C dX1_value_158 rfl ?_
                      refine zs_getf (pc := 159) C dX1_value_159 w_X1_28 f_2_5 (by decide) ?_
                      refine zs_iload_n (pc := 162) C dX1_value_162 rfl ?_
                      refine zs_iconst (pc := 163) C dX1_value_163 (by decide) ?_
                      first | refine zs_isub (pc := 164) C dX1_value_164 (by omega) ?_ | refine zs_isubF (pc := 164) C dX1_value_164 (fun z164 hz1641 hz1642 => ?_)
                      refine zs_lald (r := 2019) (pc := 165) C dX1_value_165 a_19 (by decide) (by omega) rfl (fun v165 e165 l165 u165 => ?_)
                      refine zs_aload_n (pc := 166) C dX1_value_166 rfl ?_
                      refine zs_getf (pc := 167) C dX1_value_167 w_X1_28 f_2_5 (by decide) ?_
                      refine zs_iload_n (pc := 170) C dX1_value_170 rfl ?_
                      refine zs_lald (r := 2019) (pc := 171) C dX1_value_171 a_19 (by decide) (by omega) rfl (fun v171 e171 l171 u171 => ?_)
                      refine zSjp3 (pc := 172) C dX1_value_172 s_X1_50 (c_X1_join hX ) (by decide) ⟨Nat.zero_le _, Nat.zero_le _⟩ (Nat.le_of_ble_eq_true rfl) (fun x172 l172 u172 hp172 => ?_)
                      have hq172 := hp172
                      refine zs_lstore (pc := 175) C dX1_value_175 (by decide) ?_
                      dsimp only [zset, zclr, znone]
                      refine zs_lload (pc := 177) C dX1_value_177 rfl ?_
                      refine zs_ldc2 (n := 1000000000000) (pc := 179) C dX1_value_179 q_X1_54 (by decide) (by decide) ?_
                      refine zs_lcmp (pc := 182) C dX1_value_182 (fun z182 hz182 => ?_)
                      refine zs_if_gt (tgt := 195) (pc := 183) C dX1_value_183 (by decide) (fun h183 => ?_) (fun h183 => ?_)
                      · skip
                        refine zs_ldc2 (n := -9223372036854775808) (pc := 195) C dX1_value_195 q_X1_48 (by decide) (by decide) ?_
                        exact zs_lret (pc := 198) C hr hlk dX1_value_198 ⟨by repeat (first | exact zsm_rf | assumption | refine zsm_C (by decide) ?_ | refine zsm_I (by decide) ?_ | refine zsm_J ?_ | refine zsm_c (by assumption) (by decide) ?_), trivial⟩
                      · skip
                        refine zs_lload (pc := 186) C dX1_value_186 rfl ?_
                        refine zs_ldc2 (n := -1000000000000) (pc := 188) C dX1_value_188 q_X1_56 (by decide) (by decide) ?_
                        refine zs_lcmp (pc := 191) C dX1_value_191 (fun z191 hz191 => ?_)
                        refine zs_if_ge (tgt := 199) (pc := 192) C dX1_value_192 (by decide) (fun h192 => ?_) (fun h192 => ?_)
                        · skip
                          refine zs_aload_n (pc := 199) C dX1_value_199 rfl ?_
                          refine zs_getf (pc := 200) C dX1_value_200 w_X1_28 f_2_5 (by decide) ?_
                          refine zs_iload_n (pc := 203) C dX1_value_203 rfl ?_
                          refine zs_iconst (pc := 204) C dX1_value_204 (by decide) ?_
                          first | refine zs_isub (pc := 205) C dX1_value_205 (by omega) ?_ | refine zs_isubF (pc := 205) C dX1_value_205 (fun z205 hz2051 hz2052 => ?_)
                          refine zs_lload (pc := 206) C dX1_value_206 rfl ?_
                          refine zs_last (r := 2019) (pc := 208) C dX1_value_208 a_19 (by decide) (by omega) rfl ?_
                          first | refine zs_iinc (pc := 209) C dX1_value_209 rfl (by decide) (by omega) ?_ | refine zs_iincF (pc := 209) C dX1_value_209 rfl (by decide) (fun z209 hz2091 hz2092 => ?_)
                          dsimp only [zset, zclr, znone]
                          refine zs_goto (tgt := 21) (pc := 212) C dX1_value_212 (by decide) ?_
                          exact zs_wk (ih21 _ _ _ (by first | omega | (simp only [zuI_1, zuI_2, zuJ_1, zuJ_2, zuJ_3, zuP_1, zuP_2, zuP_3, zuC_1, zuC_2, reduceIte, Nat.reduceEqDiff, false_and, and_false, true_and, and_true, and_self, or_true, true_or, or_false, false_or]; omega)) (by first | omega | (simp only [zuI_1, zuI_2, zuJ_1, zuJ_2, zuJ_3, zuP_1, zuP_2, zuP_3, zuC_1, zuC_2, reduceIte, Nat.reduceEqDiff, false_and, and_false, true_and, and_true, and_self, or_true, true_or, or_false, false_or]; omega)) (by repeat (first | exact zsm_rf | assumption | refine zsm_C (by decide) ?_ | refine zsm_I (by decide) ?_ | refine zsm_J ?_ | refine zsm_c (by assumption) (by decide) ?_)) (by first | omega | (simp only [zuI_1, zuI_2, zuJ_1, zuJ_2, zuJ_3, zuP_1, zuP_2, zuP_3, zuC_1, zuC_2, reduceIte, Nat.reduceEqDiff, false_and, and_false, true_and, and_true, and_self, or_true, true_or, or_false, false_or]; omega))) (zwk_s rfl (zwk_s rfl (zwk_s rfl (zwk_s rfl (zwk_n (zwk_n (zwk_n (zwk_n zwk_0))))))))
                        · skip
                          refine zs_ldc2 (n := -9223372036854775808) (pc := 195) C dX1_value_195 q_X1_48 (by decide) (by decide) ?_
                          exact zs_lret (pc := 198) C hr hlk dX1_value_198 ⟨by repeat (first | exact zsm_rf | assumption | refine zsm_C (by decide) ?_ | refine zsm_I (by decide) ?_ | refine zsm_J ?_ | refine zsm_c (by assumption) (by decide) ?_), trivial⟩
                  · skip
                    refine zs_aload_n (pc := 119) C dX1_value_119 rfl ?_
                    refine zs_getf (pc := 120) C dX1_value_120 w_X1_28 f_2_5 (by decide) ?_
                    refine zs_iload_n (pc := 123) C dX1_value_123 rfl ?_
                    refine zs_iconst (pc := 124) C dX1_value_124 (by decide) ?_
                    first | refine zs_isub (pc := 125) C dX1_value_125 (by omega) ?_ | refine zs_isubF (pc := 125) C dX1_value_125 (fun z125 hz1251 hz1252 => ?_)
                    refine zs_aload_n (pc := 126) C dX1_value_126 rfl ?_
                    refine zs_getf (pc := 127) C dX1_value_127 w_X1_28 f_2_5 (by decide) ?_
                    refine zs_iload_n (pc := 130) C dX1_value_130 rfl ?_
                    refine zs_iconst (pc := 131) C dX1_value_131 (by decide) ?_
                    first | refine zs_isub (pc := 132) C dX1_value_132 (by omega) ?_ | refine zs_isubF (pc := 132) C dX1_value_132 (fun z132 hz1321 hz1322 => ?_)
                    refine zs_lald (r := 2019) (pc := 133) C dX1_value_133 a_19 (by decide) (by omega) rfl (fun v133 e133 l133 u133 => ?_)
                    refine zs_lconst (n := 0) (pc := 134) C dX1_value_134 rfl (by decide) ?_
                    refine zs_lcmp (pc := 135) C dX1_value_135 (fun z135 hz135 => ?_)
                    refine zs_if_ne (tgt := 143) (pc := 136) C dX1_value_136 (by decide) (fun h136 => ?_) (fun h136 => ?_)
                    · skip
                      refine zs_lconst (n := 0) (pc := 143) C dX1_value_143 rfl (by decide) ?_
                      refine zs_last (r := 2019) (pc := 144) C dX1_value_144 a_19 (by decide) (by omega) rfl ?_
                      refine zs_goto (tgt := 209) (pc := 145) C dX1_value_145 (by decide) ?_
                      first | refine zs_iinc (pc := 209) C dX1_value_209 rfl (by decide) (by omega) ?_ | refine zs_iincF (pc := 209) C dX1_value_209 rfl (by decide) (fun z209 hz2091 hz2092 => ?_)
                      dsimp only [zset, zclr, znone]
                      refine zs_goto (tgt := 21) (pc := 212) C dX1_value_212 (by decide) ?_
                      exact zs_wk (ih21 _ _ _ (by first | omega | (simp only [zuI_1, zuI_2, zuJ_1, zuJ_2, zuJ_3, zuP_1, zuP_2, zuP_3, zuC_1, zuC_2, reduceIte, Nat.reduceEqDiff, false_and, and_false, true_and, and_true, and_self, or_true, true_or, or_false, false_or]; omega)) (by first | omega | (simp only [zuI_1, zuI_2, zuJ_1, zuJ_2, zuJ_3, zuP_1, zuP_2, zuP_3, zuC_1, zuC_2, reduceIte, Nat.reduceEqDiff, false_and, and_false, true_and, and_true, and_self, or_true, true_or, or_false, false_or]; omega)) (by repeat (first | exact zsm_rf | assumption | refine zsm_C (by decide) ?_ | refine zsm_I (by decide) ?_ | refine zsm_J ?_ | refine zsm_c (by assumption) (by decide) ?_)) (by first | omega | (simp only [zuI_1, zuI_2, zuJ_1, zuJ_2, zuJ_3, zuP_1, zuP_2, zuP_3, zuC_1, zuC_2, reduceIte, Nat.reduceEqDiff, false_and, and_false, true_and, and_true, and_self, or_true, true_or, or_false, false_or]; omega))) (zwk_s rfl (zwk_s rfl (zwk_s rfl (zwk_s rfl (zwk_n (zwk_n (zwk_n (zwk_n zwk_0))))))))
                    · skip
                      refine zs_lconst (n := 1) (pc := 139) C dX1_value_139 rfl (by decide) ?_
                      refine zs_goto (tgt := 144) (pc := 140) C dX1_value_140 (by decide) ?_
                      refine zs_last (r := 2019) (pc := 144) C dX1_value_144 a_19 (by decide) (by omega) rfl ?_
                      refine zs_goto (tgt := 209) (pc := 145) C dX1_value_145 (by decide) ?_
                      first | refine zs_iinc (pc := 209) C dX1_value_209 rfl (by decide) (by omega) ?_ | refine zs_iincF (pc := 209) C dX1_value_209 rfl (by decide) (fun z209 hz2091 hz2092 => ?_)
                      dsimp only [zset, zclr, znone]
                      refine zs_goto (tgt := 21) (pc := 212) C dX1_value_212 (by decide) ?_
                      exact zs_wk (ih21 _ _ _ (by first | omega | (simp only [zuI_1, zuI_2, zuJ_1, zuJ_2, zuJ_3, zuP_1, zuP_2, zuP_3, zuC_1, zuC_2, reduceIte, Nat.reduceEqDiff, false_and, and_false, true_and, and_true, and_self, or_true, true_or, or_false, false_or]; omega)) (by first | omega | (simp only [zuI_1, zuI_2, zuJ_1, zuJ_2, zuJ_3, zuP_1, zuP_2, zuP_3, zuC_1, zuC_2, reduceIte, Nat.reduceEqDiff, false_and, and_false, true_and, and_true, and_self, or_true, true_or, or_false, false_or]; omega)) (by repeat (first | exact zsm_rf | assumption | refine zsm_C (by decide) ?_ | refine zsm_I (by decide) ?_ | refine zsm_J ?_ | refine zsm_c (by assumption) (by decide) ?_)) (by first | omega | (simp only [zuI_1, zuI_2, zuJ_1, zuJ_2, zuJ_3, zuP_1, zuP_2, zuP_3, zuC_1, zuC_2, reduceIte, Nat.reduceEqDiff, false_and, and_false, true_and, and_true, and_self, or_true, true_or, or_false, false_or]; omega))) (zwk_s rfl (zwk_s rfl (zwk_s rfl (zwk_s rfl (zwk_n (zwk_n (zwk_n (zwk_n zwk_0))))))))
              · skip
                refine zs_aload_n (pc := 65) C dX1_value_65 rfl ?_
                refine zs_getf (pc := 66) C dX1_value_66 w_X1_28 f_2_5 (by decide) ?_
                refine zs_iload_n (pc := 69) C dX1_value_69 rfl ?_
                refine zs_iload (pc := 70) C dX1_value_70 rfl ?_
                refine zs_iconst (pc := 72) C dX1_value_72 (by decide) ?_
                refine zs_icmp_ne (tgt := 98) (pc := 73) C dX1_value_73 (by decide) (fun h73 => ?_) (fun h73 => ?_)
                · skip
                  refine zs_iload (pc := 98) C dX1_value_98 rfl ?_
                  refine zs_i2l (pc := 100) C dX1_value_100 ?_
                  refine zs_last (r := 2019) (pc := 101) C dX1_value_101 a_19 (by decide) (by omega) rfl ?_
                  first | refine zs_iinc (pc := 102) C dX1_value_102 rfl (by decide) (by omega) ?_ | refine zs_iincF (pc := 102) C dX1_value_102 rfl (by decide) (fun z102 hz1021 hz1022 => ?_)
                  dsimp only [zset, zclr, znone]
                  refine zs_goto (tgt := 209) (pc := 105) C dX1_value_105 (by decide) ?_
                  first | refine zs_iinc (pc := 209) C dX1_value_209 rfl (by decide) (by omega) ?_ | refine zs_iincF (pc := 209) C dX1_value_209 rfl (by decide) (fun z209 hz2091 hz2092 => ?_)
                  dsimp only [zset, zclr, znone]
                  refine zs_goto (tgt := 21) (pc := 212) C dX1_value_212 (by decide) ?_
                  exact zs_wk (ih21 _ _ _ (by first | omega | (simp only [zuI_1, zuI_2, zuJ_1, zuJ_2, zuJ_3, zuP_1, zuP_2, zuP_3, zuC_1, zuC_2, reduceIte, Nat.reduceEqDiff, false_and, and_false, true_and, and_true, and_self, or_true, true_or, or_false, false_or]; omega)) (by first | omega | (simp only [zuI_1, zuI_2, zuJ_1, zuJ_2, zuJ_3, zuP_1, zuP_2, zuP_3, zuC_1, zuC_2, reduceIte, Nat.reduceEqDiff, false_and, and_false, true_and, and_true, and_self, or_true, true_or, or_false, false_or]; omega)) (by repeat (first | exact zsm_rf | assumption | refine zsm_C (by decide) ?_ | refine zsm_I (by decide) ?_ | refine zsm_J ?_ | refine zsm_c (by assumption) (by decide) ?_)) (by first | omega | (simp only [zuI_1, zuI_2, zuJ_1, zuJ_2, zuJ_3, zuP_1, zuP_2, zuP_3, zuC_1, zuC_2, reduceIte, Nat.reduceEqDiff, false_and, and_false, true_and, and_true, and_self, or_true, true_or, or_false, false_or]; omega))) (zwk_s rfl (zwk_s rfl (zwk_s rfl (zwk_s rfl (zwk_n (zwk_n (zwk_n (zwk_n zwk_0))))))))
                · skip
                  refine zs_iload (pc := 76) C dX1_value_76 rfl ?_
                  refine zs_if_lt (tgt := 98) (pc := 78) C dX1_value_78 (by decide) (fun h78 => ?_) (fun h78 => ?_)
                  · skip
                    refine zs_iload (pc := 98) C dX1_value_98 rfl ?_
                    refine zs_i2l (pc := 100) C dX1_value_100 ?_
                    refine zs_last (r := 2019) (pc := 101) C dX1_value_101 a_19 (by decide) (by omega) rfl ?_
                    first | refine zs_iinc (pc := 102) C dX1_value_102 rfl (by decide) (by omega) ?_ | refine zs_iincF (pc := 102) C dX1_value_102 rfl (by decide) (fun z102 hz1021 hz1022 => ?_)
                    dsimp only [zset, zclr, znone]
                    refine zs_goto (tgt := 209) (pc := 105) C dX1_value_105 (by decide) ?_
                    first | refine zs_iinc (pc := 209) C dX1_value_209 rfl (by decide) (by omega) ?_ | refine zs_iincF (pc := 209) C dX1_value_209 rfl (by decide) (fun z209 hz2091 hz2092 => ?_)
                    dsimp only [zset, zclr, znone]
                    refine zs_goto (tgt := 21) (pc := 212) C dX1_value_212 (by decide) ?_
                    exact zs_wk (ih21 _ _ _ (by first | omega | (simp only [zuI_1, zuI_2, zuJ_1, zuJ_2, zuJ_3, zuP_1, zuP_2, zuP_3, zuC_1, zuC_2, reduceIte, Nat.reduceEqDiff, false_and, and_false, true_and, and_true, and_self, or_true, true_or, or_false, false_or]; omega)) (by first | omega | (simp only [zuI_1, zuI_2, zuJ_1, zuJ_2, zuJ_3, zuP_1, zuP_2, zuP_3, zuC_1, zuC_2, reduceIte, Nat.reduceEqDiff, false_and, and_false, true_and, and_true, and_self, or_true, true_or, or_false, false_or]; omega)) (by repeat (first | exact zsm_rf | assumption | refine zsm_C (by decide) ?_ | refine zsm_I (by decide) ?_ | refine zsm_J ?_ | refine zsm_c (by assumption) (by decide) ?_)) (by first | omega | (simp only [zuI_1, zuI_2, zuJ_1, zuJ_2, zuJ_3, zuP_1, zuP_2, zuP_3, zuC_1, zuC_2, reduceIte, Nat.reduceEqDiff, false_and, and_false, true_and, and_true, and_self, or_true, true_or, or_false, false_or]; omega))) (zwk_s rfl (zwk_s rfl (zwk_s rfl (zwk_s rfl (zwk_n (zwk_n (zwk_n (zwk_n zwk_0))))))))
                  · skip
                    refine zs_iload (pc := 81) C dX1_value_81 rfl ?_
                    refine zs_bipush (pc := 83) C dX1_value_83 (by decide) (by decide) ?_
                    refine zs_icmp_ge (tgt := 98) (pc := 85) C dX1_value_85 (by decide) (fun h85 => ?_) (fun h85 => ?_)
                    · skip
                      refine zs_iload (pc := 98) C dX1_value_98 rfl ?_
                      refine zs_i2l (pc := 100) C dX1_value_100 ?_
                      refine zs_last (r := 2019) (pc := 101) C dX1_value_101 a_19 (by decide) (by omega) rfl ?_
                      first | refine zs_iinc (pc := 102) C dX1_value_102 rfl (by decide) (by omega) ?_ | refine zs_iincF (pc := 102) C dX1_value_102 rfl (by decide) (fun z102 hz1021 hz1022 => ?_)
                      dsimp only [zset, zclr, znone]
                      refine zs_goto (tgt := 209) (pc := 105) C dX1_value_105 (by decide) ?_
                      first | refine zs_iinc (pc := 209) C dX1_value_209 rfl (by decide) (by omega) ?_ | refine zs_iincF (pc := 209) C dX1_value_209 rfl (by decide) (fun z209 hz2091 hz2092 => ?_)
                      dsimp only [zset, zclr, znone]
                      refine zs_goto (tgt := 21) (pc := 212) C dX1_value_212 (by decide) ?_
                      exact zs_wk (ih21 _ _ _ (by first | omega | (simp only [zuI_1, zuI_2, zuJ_1, zuJ_2, zuJ_3, zuP_1, zuP_2, zuP_3, zuC_1, zuC_2, reduceIte, Nat.reduceEqDiff, false_and, and_false, true_and, and_true, and_self, or_true, true_or, or_false, false_or]; omega)) (by first | omega | (simp only [zuI_1, zuI_2, zuJ_1, zuJ_2, zuJ_3, zuP_1, zuP_2, zuP_3, zuC_1, zuC_2, reduceIte, Nat.reduceEqDiff, false_and, and_false, true_and, and_true, and_self, or_true, true_or, or_false, false_or]; omega)) (by repeat (first | exact zsm_rf | assumption | refine zsm_C (by decide) ?_ | refine zsm_I (by decide) ?_ | refine zsm_J ?_ | refine zsm_c (by assumption) (by decide) ?_)) (by first | omega | (simp only [zuI_1, zuI_2, zuJ_1, zuJ_2, zuJ_3, zuP_1, zuP_2, zuP_3, zuC_1, zuC_2, reduceIte, Nat.reduceEqDiff, false_and, and_false, true_and, and_true, and_self, or_true, true_or, or_false, false_or]; omega))) (zwk_s rfl (zwk_s rfl (zwk_s rfl (zwk_s rfl (zwk_n (zwk_n (zwk_n (zwk_n zwk_0))))))))
                    · skip
                      refine zs_aload_n (pc := 88) C dX1_value_88 rfl ?_
                      refine zs_getf (pc := 89) C dX1_value_89 w_X1_24 f_2_4 (by decide) ?_
                      refine zs_iload (pc := 92) C dX1_value_92 rfl ?_
                      refine zs_lald (r := 2018) (pc := 94) C dX1_value_94 a_18 (by decide) (by omega) rfl (fun v94 e94 l94 u94 => ?_)
                      refine zs_goto (tgt := 101) (pc := 95) C dX1_value_95 (by decide) ?_
                      refine zs_last (r := 2019) (pc := 101) C dX1_value_101 a_19 (by decide) (by omega) rfl ?_
                      first | refine zs_iinc (pc := 102) C dX1_value_102 rfl (by decide) (by omega) ?_ | refine zs_iincF (pc := 102) C dX1_value_102 rfl (by decide) (fun z102 hz1021 hz1022 => ?_)
                      dsimp only [zset, zclr, znone]
                      refine zs_goto (tgt := 209) (pc := 105) C dX1_value_105 (by decide) ?_
                      first | refine zs_iinc (pc := 209) C dX1_value_209 rfl (by decide) (by omega) ?_ | refine zs_iincF (pc := 209) C dX1_value_209 rfl (by decide) (fun z209 hz2091 hz2092 => ?_)
                      dsimp only [zset, zclr, znone]
                      refine zs_goto (tgt := 21) (pc := 212) C dX1_value_212 (by decide) ?_
                      exact zs_wk (ih21 _ _ _ (by first | omega | (simp only [zuI_1, zuI_2, zuJ_1, zuJ_2, zuJ_3, zuP_1, zuP_2, zuP_3, zuC_1, zuC_2, reduceIte, Nat.reduceEqDiff, false_and, and_false, true_and, and_true, and_self, or_true, true_or, or_false, false_or]; omega)) (by first | omega | (simp only [zuI_1, zuI_2, zuJ_1, zuJ_2, zuJ_3, zuP_1, zuP_2, zuP_3, zuC_1, zuC_2, reduceIte, Nat.reduceEqDiff, false_and, and_false, true_and, and_true, and_self, or_true, true_or, or_false, false_or]; omega)) (by repeat (first | exact zsm_rf | assumption | refine zsm_C (by decide) ?_ | refine zsm_I (by decide) ?_ | refine zsm_J ?_ | refine zsm_c (by assumption) (by decide) ?_)) (by first | omega | (simp only [zuI_1, zuI_2, zuJ_1, zuJ_2, zuJ_3, zuP_1, zuP_2, zuP_3, zuC_1, zuC_2, reduceIte, Nat.reduceEqDiff, false_and, and_false, true_and, and_true, and_self, or_true, true_or, or_false, false_or]; omega))) (zwk_s rfl (zwk_s rfl (zwk_s rfl (zwk_s rfl (zwk_n (zwk_n (zwk_n (zwk_n zwk_0))))))))
    exact zs_wk (L21 _ _ _ _ (by first | omega | (simp only [zuI_1, zuI_2, zuJ_1, zuJ_2, zuJ_3, zuP_1, zuP_2, zuP_3, zuC_1, zuC_2, reduceIte, Nat.reduceEqDiff, false_and, and_false, true_and, and_true, and_self, or_true, true_or, or_false, false_or]; omega)) (by first | omega | (simp only [zuI_1, zuI_2, zuJ_1, zuJ_2, zuJ_3, zuP_1, zuP_2, zuP_3, zuC_1, zuC_2, reduceIte, Nat.reduceEqDiff, false_and, and_false, true_and, and_true, and_self, or_true, true_or, or_false, false_or]; omega)) (by repeat (first | exact zsm_rf | assumption | refine zsm_C (by decide) ?_ | refine zsm_I (by decide) ?_ | refine zsm_J ?_ | refine zsm_c (by assumption) (by decide) ?_)) (Nat.lt_succ_self _)) (zwk_s rfl (zwk_s rfl (zwk_s rfl (zwk_s rfl (zwk_n (zwk_n (zwk_n (zwk_n zwk_0))))))))
  · skip
    refine zs_ldc2 (n := -9223372036854775808) (pc := 8) C dX1_value_8 q_X1_48 (by decide) (by decide) ?_
    exact zs_lret (pc := 11) C hr hlk dX1_value_11 ⟨by repeat (first | exact zsm_rf | assumption | refine zsm_C (by decide) ?_ | refine zsm_I (by decide) ?_ | refine zsm_J ?_ | refine zsm_c (by assumption) (by decide) ?_), trivial⟩
