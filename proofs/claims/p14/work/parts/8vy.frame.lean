set_option maxHeartbeats 4000000 in
set_option maxRecDepth 100000 in
theorem c_X9_laySackO {l : Launch} {Γ : zΓ} {G : zH} {w : Nat} {a b : Int} (hX : zXs Γ) (ha : 0 ≤ a ∧ a ≤ 59) (hb : 0 ≤ b ∧ b ≤ 3) : zMet l Γ yX9_laySack cX9_laySack 3 none 1 [zr 10 w, zi a, zi b] G (zpv (fun G' => zsm [] G G' ∧ RO G G' ∧ True)) := by
  refine zMet_of RX9 hX (by decide) rfl (Nat.le_of_ble_eq_true rfl) ?_
  intro p e s m args below meth c C hr hlk
  show Z p l e (zrm 1) s m args below meth c Γ 3 0 0 (MQ below (zQc Γ (zpv (fun G' => zsm [] G G' ∧ RO G G' ∧ True))) args s 0 0 (zA Γ)) 0 [some (zr 10 w), some (zi a), some (zi b)] [] G
  refine zs_loc 1 rfl (fun ha1 hb1 => ?_)
  refine zs_loc 2 rfl (fun ha2 hb2 => ?_)
  refine zs_aload_n (pc := 0) C dX9_laySack_0 rfl ?_
  refine zs_aload_n (pc := 1) C dX9_laySack_1 rfl ?_
  refine zs_getf (pc := 2) C dX9_laySack_2 w_X9_30 f_10_25 (by decide) ?_
  refine zs_iload_n (pc := 5) C dX9_laySack_5 rfl ?_
  refine zs_iald (r := 2062) (pc := 6) C dX9_laySack_6 a_62 (by decide) (by omega) rfl (r_2062 _) (fun v6 e6 l6 u6 => ?_)
  refine zs_aload_n (pc := 7) C dX9_laySack_7 rfl ?_
  refine zs_getf (pc := 8) C dX9_laySack_8 w_X9_133 f_10_67 (by decide) ?_
  refine zs_iload_n (pc := 11) C dX9_laySack_11 rfl ?_
  refine zs_iald (r := 2096) (pc := 12) C dX9_laySack_12 a_96 (by decide) (by omega) rfl (r_2096 _) (fun v12 e12 l12 u12 => ?_)
  refine zs_aload_n (pc := 13) C dX9_laySack_13 rfl ?_
  refine zs_getf (pc := 14) C dX9_laySack_14 w_X9_136 f_10_68 (by decide) ?_
  refine zs_iload_n (pc := 17) C dX9_laySack_17 rfl ?_
  refine zs_iald (r := 2097) (pc := 18) C dX9_laySack_18 a_97 (by decide) (by omega) rfl (r_2097 _) (fun v18 e18 l18 u18 => ?_)
  refine zs_aload_n (pc := 19) C dX9_laySack_19 rfl ?_
  refine zs_getf (pc := 20) C dX9_laySack_20 w_X9_139 f_10_69 (by decide) ?_
  refine zs_iload_n (pc := 23) C dX9_laySack_23 rfl ?_
  refine zs_iald (r := 2098) (pc := 24) C dX9_laySack_24 a_98 (by decide) (by omega) rfl (r_2098 _) (fun v24 e24 l24 u24 => ?_)
  refine zs_aload_n (pc := 25) C dX9_laySack_25 rfl ?_
  refine zs_getf (pc := 26) C dX9_laySack_26 w_X9_145 f_10_71 (by decide) ?_
  refine zs_iload_n (pc := 29) C dX9_laySack_29 rfl ?_
  refine zs_iald (r := 2100) (pc := 30) C dX9_laySack_30 a_100 (by decide) (by omega) rfl (r_2100 _) (fun v30 e30 l30 u30 => ?_)
  refine zs_iload_n (pc := 31) C dX9_laySack_31 rfl ?_
  refine zSip2 (pc := 32) C dX9_laySack_32 s_X9_516 (c_X9_isOf hX ) (by decide) ⟨Nat.zero_le _, Nat.zero_le _⟩ (Nat.le_of_ble_eq_true rfl) (fun x32 l32 u32 hp32 => ?_)
  have hq32 := hp32
  refine zs_if_eq (tgt := 42) (pc := 35) C dX9_laySack_35 (by decide) (fun h35 => ?_) (fun h35 => ?_)
  · skip
    refine zs_iconst (pc := 42) C dX9_laySack_42 (by decide) ?_
    refine zs_aload_n (pc := 43) C dX9_laySack_43 rfl ?_
    refine zs_getf (pc := 44) C dX9_laySack_44 w_X9_36 f_10_27 (by decide) ?_
    refine zs_aload_n (pc := 47) C dX9_laySack_47 rfl ?_
    refine zs_getf (pc := 48) C dX9_laySack_48 w_X9_118 f_10_62 (by decide) ?_
    refine zs_iload_n (pc := 51) C dX9_laySack_51 rfl ?_
    refine zs_iald (r := 2091) (pc := 52) C dX9_laySack_52 a_91 (by decide) (by omega) rfl (r_2091 _) (fun v52 e52 l52 u52 => ?_)
    refine zs_iald (r := 2064) (pc := 53) C dX9_laySack_53 a_64 (by decide) (by omega) rfl (r_2064 _) (fun v53 e53 l53 u53 => ?_)
    refine zs_aload_n (pc := 54) C dX9_laySack_54 rfl ?_
    refine zs_getf (pc := 55) C dX9_laySack_55 w_X9_142 f_10_70 (by decide) ?_
    refine zs_iload_n (pc := 58) C dX9_laySack_58 rfl ?_
    refine zs_iald (r := 2099) (pc := 59) C dX9_laySack_59 a_99 (by decide) (by omega) rfl (r_2099 _) (fun v59 e59 l59 u59 => ?_)
    refine zVv7 (pc := 60) C dX9_laySack_60 v_X9_410 (c_X9_layNamesO hX ) (by decide) (by decide) ⟨Nat.zero_le _, Nat.zero_le _⟩ (Nat.le_of_ble_eq_true rfl) (fun G60 hp60 => ?_)
    obtain ⟨hz60, lo60, hq60⟩ := hp60
    exact zs_vret (pc := 63) C hr hlk dX9_laySack_63 ⟨by repeat (first | exact zsm_rf | assumption | refine zsm_C (by decide) ?_ | refine zsm_I (by decide) ?_ | refine zsm_J ?_ | refine zsm_c (by assumption) (by decide) ?_), (by with_reducible repeat (first | exact RO_rf | assumption | refine RO_0 (by decide) ?_ | refine RO_n 20 (by decide) (by omega) ?_ | refine RO_n 5 (by decide) (by omega) ?_ | refine RO_n 60 (by decide) (by omega) ?_ | refine RO_n 1 (by decide) (by omega) ?_ | refine RO_J (by decide) ?_ | refine RO_c (by assumption) ?_)), trivial⟩
  · skip
    refine zs_iconst (pc := 38) C dX9_laySack_38 (by decide) ?_
    refine zs_goto (tgt := 43) (pc := 39) C dX9_laySack_39 (by decide) ?_
    refine zs_aload_n (pc := 43) C dX9_laySack_43 rfl ?_
    refine zs_getf (pc := 44) C dX9_laySack_44 w_X9_36 f_10_27 (by decide) ?_
    refine zs_aload_n (pc := 47) C dX9_laySack_47 rfl ?_
    refine zs_getf (pc := 48) C dX9_laySack_48 w_X9_118 f_10_62 (by decide) ?_
    refine zs_iload_n (pc := 51) C dX9_laySack_51 rfl ?_
    refine zs_iald (r := 2091) (pc := 52) C dX9_laySack_52 a_91 (by decide) (by omega) rfl (r_2091 _) (fun v52 e52 l52 u52 => ?_)
    refine zs_iald (r := 2064) (pc := 53) C dX9_laySack_53 a_64 (by decide) (by omega) rfl (r_2064 _) (fun v53 e53 l53 u53 => ?_)
    refine zs_aload_n (pc := 54) C dX9_laySack_54 rfl ?_
    refine zs_getf (pc := 55) C dX9_laySack_55 w_X9_142 f_10_70 (by decide) ?_
    refine zs_iload_n (pc := 58) C dX9_laySack_58 rfl ?_
    refine zs_iald (r := 2099) (pc := 59) C dX9_laySack_59 a_99 (by decide) (by omega) rfl (r_2099 _) (fun v59 e59 l59 u59 => ?_)
    refine zVv7 (pc := 60) C dX9_laySack_60 v_X9_410 (c_X9_layNamesO hX ) (by decide) (by decide) ⟨Nat.zero_le _, Nat.zero_le _⟩ (Nat.le_of_ble_eq_true rfl) (fun G60 hp60 => ?_)
    obtain ⟨hz60, lo60, hq60⟩ := hp60
    exact zs_vret (pc := 63) C hr hlk dX9_laySack_63 ⟨by repeat (first | exact zsm_rf | assumption | refine zsm_C (by decide) ?_ | refine zsm_I (by decide) ?_ | refine zsm_J ?_ | refine zsm_c (by assumption) (by decide) ?_), (by with_reducible repeat (first | exact RO_rf | assumption | refine RO_0 (by decide) ?_ | refine RO_n 20 (by decide) (by omega) ?_ | refine RO_n 5 (by decide) (by omega) ?_ | refine RO_n 60 (by decide) (by omega) ?_ | refine RO_n 1 (by decide) (by omega) ?_ | refine RO_J (by decide) ?_ | refine RO_c (by assumption) ?_)), trivial⟩

set_option maxHeartbeats 4000000 in
set_option maxRecDepth 100000 in
theorem c_X9_crumbO {l : Launch} {Γ : zΓ} {G : zH} {w : Nat} {a b : Int} (hX : zXs Γ) (hM : MI Γ w G) : zMet l Γ yX9_crumb cX9_crumb 9 (some .int) 4 [zr 10 w, zi a, zi b] G (zpi (fun x G' => zsm [1002, 1050] G G' ∧ RO G G' ∧ True)) := by
  refine zMet_of RX9 hX (by decide) rfl (Nat.le_of_ble_eq_true rfl) ?_
  intro p e s m args below meth c C hr hlk
  show Z p l e (zrm 4) s m args below meth c Γ 9 0 0 (MQ below (zQc Γ (zpi (fun x G' => zsm [1002, 1050] G G' ∧ RO G G' ∧ True))) args s 0 0 (zA Γ)) 0 [some (zr 10 w), some (zi a), some (zi b), none, none, none, none, none, none] [] G
  refine zs_loc 1 rfl (fun ha1 hb1 => ?_)
  refine zs_loc 2 rfl (fun ha2 hb2 => ?_)
  refine zs_aload_n (pc := 0) C dX9_crumb_0 rfl ?_
  refine zs_iconst (pc := 1) C dX9_crumb_1 (by decide) ?_
  refine zs_puti (r := 1002) (pc := 2) C dX9_crumb_2 w_X9_178 f_10_2 rfl (r_1002 0) (by omega) ?_
  refine zs_iload_n (pc := 5) C dX9_crumb_5 rfl ?_
  refine zs_if_lt (tgt := 28) (pc := 6) C dX9_crumb_6 (by decide) (fun h6 => ?_) (fun h6 => ?_)
  · skip
    refine zs_iconst (pc := 28) C dX9_crumb_28 (by decide) ?_
    exact zs_iret (pc := 29) C hr hlk dX9_crumb_29 ⟨by repeat (first | exact zsm_rf | assumption | refine zsm_C (by decide) ?_ | refine zsm_I (by decide) ?_ | refine zsm_J ?_ | refine zsm_c (by assumption) (by decide) ?_), (by with_reducible repeat (first | exact RO_rf | assumption | refine RO_0 (by decide) ?_ | refine RO_n 20 (by decide) (by omega) ?_ | refine RO_n 5 (by decide) (by omega) ?_ | refine RO_n 60 (by decide) (by omega) ?_ | refine RO_n 1 (by decide) (by omega) ?_ | refine RO_J (by decide) ?_ | refine RO_c (by assumption) ?_)), trivial⟩
  · skip
    refine zs_iload_n (pc := 9) C dX9_crumb_9 rfl ?_
    refine zs_aload_n (pc := 10) C dX9_crumb_10 rfl ?_
    refine zs_getf (pc := 11) C dX9_crumb_11 w_X9_106 f_10_57 (by decide) ?_
    refine zs_iconst (pc := 14) C dX9_crumb_14 (by decide) ?_
    refine zs_iald (r := 2087) (pc := 15) C dX9_crumb_15 a_87 (by decide) (by omega) rfl (r_2087 _) (fun v15 e15 l15 u15 => ?_)
    try simp only [zuI_1, zuI_2, zuJ_1, zuJ_2, zuJ_3, zuP_1, zuP_2, zuP_3, zuC_1, zuC_2, reduceIte, Nat.reduceEqDiff, false_and, and_false, true_and, and_true, and_self, or_true, true_or, or_false, false_or] at e15
    refine zs_icmp_ge (tgt := 28) (pc := 16) C dX9_crumb_16 (by decide) (fun h16 => ?_) (fun h16 => ?_)
    · skip
      refine zs_iconst (pc := 28) C dX9_crumb_28 (by decide) ?_
      exact zs_iret (pc := 29) C hr hlk dX9_crumb_29 ⟨by repeat (first | exact zsm_rf | assumption | refine zsm_C (by decide) ?_ | refine zsm_I (by decide) ?_ | refine zsm_J ?_ | refine zsm_c (by assumption) (by decide) ?_), (by with_reducible repeat (first | exact RO_rf | assumption | refine RO_0 (by decide) ?_ | refine RO_n 20 (by decide) (by omega) ?_ | refine RO_n 5 (by decide) (by omega) ?_ | refine RO_n 60 (by decide) (by omega) ?_ | refine RO_n 1 (by decide) (by omega) ?_ | refine RO_J (by decide) ?_ | refine RO_c (by assumption) ?_)), trivial⟩
    · skip
      refine zs_iload_n (pc := 19) C dX9_crumb_19 rfl ?_
      refine zs_iconst (pc := 20) C dX9_crumb_20 (by decide) ?_
      refine zs_iconst (pc := 21) C dX9_crumb_21 (by decide) ?_
      refine zSip3 (pc := 22) C dX9_crumb_22 s_X9_223 (c_X9_isIn hX ) (by decide) ⟨Nat.zero_le _, Nat.zero_le _⟩ (Nat.le_of_ble_eq_true rfl) (fun x22 l22 u22 hp22 => ?_)
      have hq22 := hp22
      try simp only [zuI_1, zuI_2, zuJ_1, zuJ_2, zuJ_3, zuP_1, zuP_2, zuP_3, zuC_1, zuC_2, reduceIte, Nat.reduceEqDiff, false_and, and_false, true_and, and_true, and_self, or_true, true_or, or_false, false_or] at hq22
      refine zs_if_ne (tgt := 30) (pc := 25) C dX9_crumb_25 (by decide) (fun h25 => ?_) (fun h25 => ?_)
      · skip
        refine zs_iconst (pc := 30) C dX9_crumb_30 (by decide) ?_
        refine zs_istore_n (pc := 31) C dX9_crumb_31 (by decide) ?_
        dsimp only [zset, zclr, znone]
        refine zs_iconst (pc := 32) C dX9_crumb_32 (by decide) ?_
        refine zs_istore (pc := 33) C dX9_crumb_33 (by decide) ?_
        dsimp only [zset, zclr, znone]
        refine zs_iconst (pc := 35) C dX9_crumb_35 (by decide) ?_
        refine zs_istore (pc := 36) C dX9_crumb_36 (by decide) ?_
        dsimp only [zset, zclr, znone]
        refine zs_iconst (pc := 38) C dX9_crumb_38 (by decide) ?_
        refine zs_istore (pc := 39) C dX9_crumb_39 (by decide) ?_
        dsimp only [zset, zclr, znone]
        refine zs_aload_n (pc := 41) C dX9_crumb_41 rfl ?_
        refine zs_getf (pc := 42) C dX9_crumb_42 w_X9_36 f_10_27 (by decide) ?_
        refine zs_aload_n (pc := 45) C dX9_crumb_45 rfl ?_
        refine zs_getf (pc := 46) C dX9_crumb_46 w_X9_118 f_10_62 (by decide) ?_
        refine zs_iload_n (pc := 49) C dX9_crumb_49 rfl ?_
        refine zs_iald (r := 2091) (pc := 50) C dX9_crumb_50 a_91 (by decide) (by omega) rfl (r_2091 _) (fun v50 e50 l50 u50 => ?_)
        try simp only [zuI_1, zuI_2, zuJ_1, zuJ_2, zuJ_3, zuP_1, zuP_2, zuP_3, zuC_1, zuC_2, reduceIte, Nat.reduceEqDiff, false_and, and_false, true_and, and_true, and_self, or_true, true_or, or_false, false_or] at e50
        refine zs_iald (r := 2064) (pc := 51) C dX9_crumb_51 a_64 (by decide) (by omega) rfl (r_2064 _) (fun v51 e51 l51 u51 => ?_)
        try simp only [zuI_1, zuI_2, zuJ_1, zuJ_2, zuJ_3, zuP_1, zuP_2, zuP_3, zuC_1, zuC_2, reduceIte, Nat.reduceEqDiff, false_and, and_false, true_and, and_true, and_self, or_true, true_or, or_false, false_or] at e51
        refine zs_istore (pc := 52) C dX9_crumb_52 (by decide) ?_
        dsimp only [zset, zclr, znone]
        refine zs_iconst (pc := 54) C dX9_crumb_54 (by decide) ?_
        refine zs_istore (pc := 55) C dX9_crumb_55 (by decide) ?_
        dsimp only [zset, zclr, znone]
        have L57 : ∀ (nn : Nat) (x3 x4 x5 x6 x8 : Int) (G1 : zH), (0 ≤ x8 ∧ x8 ≤ 4) → (0 ≤ x5 ∧ x5 ≤ 100 * x8) → (0 ≤ x6 ∧ x6 ≤ 100 * x8) → (zsm [1002, 1050] G G1) → (RO G G1) → (4 - x8).toNat < nn → Z p l e (zrm 4) s m args below meth c Γ 9 0 0 (MQ below (zQc Γ (zpi (fun x G' => zsm [1002, 1050] G G' ∧ RO G G' ∧ True))) args s 0 0 (zA Γ)) 57 [some (zr 10 w), some (zi a), some (zi b), some (zi x3), some (zi x4), some (zi x5), some (zi x6), some (zi v51), some (zi x8)] [] G1 := by
          intro nn
          induction nn with
          | zero => intro x3 x4 x5 x6 x8 G1 h57_0 h57_1 h57_2 h57_3 h57_4 hm; exact absurd hm (Nat.not_lt_zero _)
          | succ nn ih57 =>
            intro x3 x4 x5 x6 x8 G1 h57_0 h57_1 h57_2 h57_3 h57_4 hm57
            refine zs_iload (pc := 57) C dX9_crumb_57 rfl ?_
            refine zs_aload_n (pc := 59) C dX9_crumb_59 rfl ?_
            refine zs_geti (r := 1012) (pc := 60) C dX9_crumb_60 w_X9_258 f_10_12 rfl (r_1012 0) (fun v60 e60 l60 u60 => ?_)
            refine zs_icmp_ge (tgt := 166) (pc := 63) C dX9_crumb_63 (by decide) (fun h63 => ?_) (fun h63 => ?_)
            · skip
              refine zs_iload_n (pc := 166) C dX9_crumb_166 rfl ?_
              refine zs_iconst (pc := 167) C dX9_crumb_167 (by decide) ?_
              refine zs_icmp_ge (tgt := 182) (pc := 168) C dX9_crumb_168 (by decide) (fun h168 => ?_) (fun h168 => ?_)
              · skip
                refine zs_iload (pc := 182) C dX9_crumb_182 rfl ?_
                refine zs_if_ne (tgt := 198) (pc := 184) C dX9_crumb_184 (by decide) (fun h184 => ?_) (fun h184 => ?_)
                · skip
                  refine zs_iload_n (pc := 198) C dX9_crumb_198 rfl ?_
                  refine zs_iconst (pc := 199) C dX9_crumb_199 (by decide) ?_
                  refine zs_icmp_ne (tgt := 208) (pc := 200) C dX9_crumb_200 (by decide) (fun h200 => ?_) (fun h200 => ?_)
                  · skip
                    refine zs_iload (pc := 208) C dX9_crumb_208 rfl ?_
                    refine zs_iload (pc := 210) C dX9_crumb_210 rfl ?_
                    refine zs_iload (pc := 212) C dX9_crumb_212 rfl ?_
                    refine zSip2 (pc := 214) C dX9_crumb_214 s_X9_522 (c_X9_common hX (by omega)) (by decide) ⟨Nat.zero_le _, Nat.zero_le _⟩ (Nat.le_of_ble_eq_true rfl) (fun x214 l214 u214 hp214 => ?_)
                    have hq214 := hp214
                    first | refine zs_idiv (pc := 217) C dX9_crumb_217 (by omega) (by omega) (fun hz2171 hz2172 => ?_) | refine zs_idivF (pc := 217) C dX9_crumb_217 (by omega) (fun z217 hz2171 hz2172 => ?_)
                    exact zs_iret (pc := 218) C hr hlk dX9_crumb_218 ⟨by repeat (first | exact zsm_rf | assumption | refine zsm_C (by decide) ?_ | refine zsm_I (by decide) ?_ | refine zsm_J ?_ | refine zsm_c (by assumption) (by decide) ?_), (by with_reducible repeat (first | exact RO_rf | assumption | refine RO_0 (by decide) ?_ | refine RO_n 20 (by decide) (by omega) ?_ | refine RO_n 5 (by decide) (by omega) ?_ | refine RO_n 60 (by decide) (by omega) ?_ | refine RO_n 1 (by decide) (by omega) ?_ | refine RO_J (by decide) ?_ | refine RO_c (by assumption) ?_)), trivial⟩
                  · skip
                    refine zs_iload (pc := 203) C dX9_crumb_203 rfl ?_
                    refine zs_goto (tgt := 210) (pc := 205) C dX9_crumb_205 (by decide) ?_
                    refine zs_iload (pc := 210) C dX9_crumb_210 rfl ?_
                    refine zs_iload (pc := 212) C dX9_crumb_212 rfl ?_
                    refine zSip2 (pc := 214) C dX9_crumb_214 s_X9_522 (c_X9_common hX (by omega)) (by decide) ⟨Nat.zero_le _, Nat.zero_le _⟩ (Nat.le_of_ble_eq_true rfl) (fun x214 l214 u214 hp214 => ?_)
                    have hq214 := hp214
                    first | refine zs_idiv (pc := 217) C dX9_crumb_217 (by omega) (by omega) (fun hz2171 hz2172 => ?_) | refine zs_idivF (pc := 217) C dX9_crumb_217 (by omega) (fun z217 hz2171 hz2172 => ?_)
                    exact zs_iret (pc := 218) C hr hlk dX9_crumb_218 ⟨by repeat (first | exact zsm_rf | assumption | refine zsm_C (by decide) ?_ | refine zsm_I (by decide) ?_ | refine zsm_J ?_ | refine zsm_c (by assumption) (by decide) ?_), (by with_reducible repeat (first | exact RO_rf | assumption | refine RO_0 (by decide) ?_ | refine RO_n 20 (by decide) (by omega) ?_ | refine RO_n 5 (by decide) (by omega) ?_ | refine RO_n 60 (by decide) (by omega) ?_ | refine RO_n 1 (by decide) (by omega) ?_ | refine RO_J (by decide) ?_ | refine RO_c (by assumption) ?_)), trivial⟩
                · skip
                  refine zs_iload_n (pc := 187) C dX9_crumb_187 rfl ?_
                  refine zs_iconst (pc := 188) C dX9_crumb_188 (by decide) ?_
                  refine zs_icmp_ne (tgt := 196) (pc := 189) C dX9_crumb_189 (by decide) (fun h189 => ?_) (fun h189 => ?_)
                  · skip
                    refine zs_iconst (pc := 196) C dX9_crumb_196 (by decide) ?_
                    exact zs_iret (pc := 197) C hr hlk dX9_crumb_197 ⟨by repeat (first | exact zsm_rf | assumption | refine zsm_C (by decide) ?_ | refine zsm_I (by decide) ?_ | refine zsm_J ?_ | refine zsm_c (by assumption) (by decide) ?_), (by with_reducible repeat (first | exact RO_rf | assumption | refine RO_0 (by decide) ?_ | refine RO_n 20 (by decide) (by omega) ?_ | refine RO_n 5 (by decide) (by omega) ?_ | refine RO_n 60 (by decide) (by omega) ?_ | refine RO_n 1 (by decide) (by omega) ?_ | refine RO_J (by decide) ?_ | refine RO_c (by assumption) ?_)), trivial⟩
                  · skip
                    refine zs_iconst (pc := 192) C dX9_crumb_192 (by decide) ?_
                    refine zs_goto (tgt := 197) (pc := 193) C dX9_crumb_193 (by decide) ?_
                    exact zs_iret (pc := 197) C hr hlk dX9_crumb_197 ⟨by repeat (first | exact zsm_rf | assumption | refine zsm_C (by decide) ?_ | refine zsm_I (by decide) ?_ | refine zsm_J ?_ | refine zsm_c (by assumption) (by decide) ?_), (by with_reducible repeat (first | exact RO_rf | assumption | refine RO_0 (by decide) ?_ | refine RO_n 20 (by decide) (by omega) ?_ | refine RO_n 5 (by decide) (by omega) ?_ | refine RO_n 60 (by decide) (by omega) ?_ | refine RO_n 1 (by decide) (by omega) ?_ | refine RO_J (by decide) ?_ | refine RO_c (by assumption) ?_)), trivial⟩
              · skip
                refine zs_iload_n (pc := 171) C dX9_crumb_171 rfl ?_
                refine zs_if_ne (tgt := 179) (pc := 172) C dX9_crumb_172 (by decide) (fun h172 => ?_) (fun h172 => ?_)
                · skip
                  refine zs_iload (pc := 179) C dX9_crumb_179 rfl ?_
                  exact zs_iret (pc := 181) C hr hlk dX9_crumb_181 ⟨by repeat (first | exact zsm_rf | assumption | refine zsm_C (by decide) ?_ | refine zsm_I (by decide) ?_ | refine zsm_J ?_ | refine zsm_c (by assumption) (by decide) ?_), (by with_reducible repeat (first | exact RO_rf | assumption | refine RO_0 (by decide) ?_ | refine RO_n 20 (by decide) (by omega) ?_ | refine RO_n 5 (by decide) (by omega) ?_ | refine RO_n 60 (by decide) (by omega) ?_ | refine RO_n 1 (by decide) (by omega) ?_ | refine RO_J (by decide) ?_ | refine RO_c (by assumption) ?_)), trivial⟩
                · skip
                  refine zs_iload_n (pc := 175) C dX9_crumb_175 rfl ?_
                  refine zs_goto (tgt := 181) (pc := 176) C dX9_crumb_176 (by decide) ?_
                  exact zs_iret (pc := 181) C hr hlk dX9_crumb_181 ⟨by repeat (first | exact zsm_rf | assumption | refine zsm_C (by decide) ?_ | refine zsm_I (by decide) ?_ | refine zsm_J ?_ | refine zsm_c (by assumption) (by decide) ?_), (by with_reducible repeat (first | exact RO_rf | assumption | refine RO_0 (by decide) ?_ | refine RO_n 20 (by decide) (by omega) ?_ | refine RO_n 5 (by decide) (by omega) ?_ | refine RO_n 60 (by decide) (by omega) ?_ | refine RO_n 1 (by decide) (by omega) ?_ | refine RO_J (by decide) ?_ | refine RO_c (by assumption) ?_)), trivial⟩
            · skip
              refine zs_aload_n (pc := 66) C dX9_crumb_66 rfl ?_
              refine zs_iload_n (pc := 67) C dX9_crumb_67 rfl ?_
              refine zs_iload (pc := 68) C dX9_crumb_68 rfl ?_
              refine zVv2 (pc := 70) C dX9_crumb_70 v_X9_519 (c_X9_laySackO hX (by omega) (by omega)) (by decide) (by decide) ⟨Nat.zero_le _, Nat.zero_le _⟩ (Nat.le_of_ble_eq_true rfl) (fun G70 hp70 => ?_)
              obtain ⟨hz70, lo70, hq70⟩ := hp70
              refine zs_aload_n (pc := 73) C dX9_crumb_73 rfl ?_
              refine zs_iconst (pc := 74) C dX9_crumb_74 (by decide) ?_
              refine zs_aload_n (pc := 75) C dX9_crumb_75 rfl ?_
              refine zs_getf (pc := 76) C dX9_crumb_76 w_X9_30 f_10_25 (by decide) ?_
              refine zs_iload (pc := 79) C dX9_crumb_79 rfl ?_
              refine zs_iald (r := 2062) (pc := 81) C dX9_crumb_81 a_62 (by decide) (by omega) rfl (r_2062 _) (fun v81 e81 l81 u81 => ?_)
              refine zs_sipush (pc := 82) C dX9_crumb_82 (by decide) (by decide) ?_
              refine zVi3 (pc := 85) C dX9_crumb_85 v_X9_424 (c_X9_boundLawO hX (by repeat (first | assumption | refine MI_I (by decide) ?_ | refine MI_J ?_ | refine MI_sm (by assumption) (by decide) ?_ | refine MI_sn (by assumption) (by decide) ?_)) (by omega)) (by decide) (by decide) ⟨Nat.zero_le _, Nat.zero_le _⟩ (Nat.le_of_ble_eq_true rfl) (fun x85 G85 l85 u85 hp85 => ?_)
              obtain ⟨hz85, lo85, hq85⟩ := hp85
              refine zs_aload_n (pc := 88) C dX9_crumb_88 rfl ?_
              refine zs_getf (pc := 89) C dX9_crumb_89 w_X9_124 f_10_64 (by decide) ?_
              refine zs_iload_n (pc := 92) C dX9_crumb_92 rfl ?_
              refine zs_iald (r := 2093) (pc := 93) C dX9_crumb_93 a_93 (by decide) (by omega) rfl (r_2093 _) (fun v93 e93 l93 u93 => ?_)
              refine zs_icmp_eq (tgt := 100) (pc := 94) C dX9_crumb_94 (by decide) (fun h94 => ?_) (fun h94 => ?_)
              · skip
                refine zs_aload_n (pc := 100) C dX9_crumb_100 rfl ?_
                refine zs_getf (pc := 101) C dX9_crumb_101 w_X9_145 f_10_71 (by decide) ?_
                refine zs_iload_n (pc := 104) C dX9_crumb_104 rfl ?_
                refine zs_iald (r := 2100) (pc := 105) C dX9_crumb_105 a_100 (by decide) (by omega) rfl (r_2100 _) (fun v105 e105 l105 u105 => ?_)
                refine zs_iload (pc := 106) C dX9_crumb_106 rfl ?_
                refine zSip2 (pc := 108) C dX9_crumb_108 s_X9_516 (c_X9_isOf hX ) (by decide) ⟨Nat.zero_le _, Nat.zero_le _⟩ (Nat.le_of_ble_eq_true rfl) (fun x108 l108 u108 hp108 => ?_)
                have hq108 := hp108
                refine zs_if_eq (tgt := 131) (pc := 111) C dX9_crumb_111 (by decide) (fun h111 => ?_) (fun h111 => ?_)
                · skip
                  refine zs_iload (pc := 131) C dX9_crumb_131 rfl ?_
                  refine zs_iconst (pc := 133) C dX9_crumb_133 (by decide) ?_
                  refine zs_iload (pc := 134) C dX9_crumb_134 rfl ?_
                  refine zs_ishlF (pc := 136) C dX9_crumb_136 (fun z136 hz1361 hz1362 => ?_)
                  refine zs_iorF (pc := 137) C dX9_crumb_137 (fun z137 hz1371 hz1372 => ?_)
                  refine zs_istore (pc := 138) C dX9_crumb_138 (by decide) ?_
                  dsimp only [zset, zclr, znone]
                  refine zs_iload (pc := 140) C dX9_crumb_140 rfl ?_
                  refine zs_bipush (pc := 142) C dX9_crumb_142 (by decide) (by decide) ?_
                  refine zs_iload (pc := 144) C dX9_crumb_144 rfl ?_
                  first | refine zs_isub (pc := 146) C dX9_crumb_146 (by omega) ?_ | refine zs_isubF (pc := 146) C dX9_crumb_146 (fun z146 hz1461 hz1462 => ?_)
                  first | refine zs_iadd (pc := 147) C dX9_crumb_147 (by omega) ?_ | refine zs_iaddF (pc := 147) C dX9_crumb_147 (fun z147 hz1471 hz1472 => ?_)
                  refine zs_istore (pc := 148) C dX9_crumb_148 (by decide) ?_
                  dsimp only [zset, zclr, znone]
                  refine zs_iload (pc := 150) C dX9_crumb_150 rfl ?_
                  refine zs_bipush (pc := 152) C dX9_crumb_152 (by decide) (by decide) ?_
                  refine zs_iload (pc := 154) C dX9_crumb_154 rfl ?_
                  first | refine zs_isub (pc := 156) C dX9_crumb_156 (by omega) ?_ | refine zs_isubF (pc := 156) C dX9_crumb_156 (fun z156 hz1561 hz1562 => ?_)
                  first | refine zs_iadd (pc := 157) C dX9_crumb_157 (by omega) ?_ | refine zs_iaddF (pc := 157) C dX9_crumb_157 (fun z157 hz1571 hz1572 => ?_)
                  refine zs_istore (pc := 158) C dX9_crumb_158 (by decide) ?_
                  dsimp only [zset, zclr, znone]
                  first | refine zs_iinc (pc := 160) C dX9_crumb_160 rfl (by decide) (by omega) ?_ | refine zs_iincF (pc := 160) C dX9_crumb_160 rfl (by decide) (fun z160 hz1601 hz1602 => ?_)
                  dsimp only [zset, zclr, znone]
                  refine zs_goto (tgt := 57) (pc := 163) C dX9_crumb_163 (by decide) ?_
                  exact zs_wk (ih57 _ _ _ _ _ _ (by first | omega | (simp only [zuI_1, zuI_2, zuJ_1, zuJ_2, zuJ_3, zuP_1, zuP_2, zuP_3, zuC_1, zuC_2, reduceIte, Nat.reduceEqDiff, false_and, and_false, true_and, and_true, and_self, or_true, true_or, or_false, false_or]; omega)) (by first | omega | (simp only [zuI_1, zuI_2, zuJ_1, zuJ_2, zuJ_3, zuP_1, zuP_2, zuP_3, zuC_1, zuC_2, reduceIte, Nat.reduceEqDiff, false_and, and_false, true_and, and_true, and_self, or_true, true_or, or_false, false_or]; omega)) (by first | omega | (simp only [zuI_1, zuI_2, zuJ_1, zuJ_2, zuJ_3, zuP_1, zuP_2, zuP_3, zuC_1, zuC_2, reduceIte, Nat.reduceEqDiff, false_and, and_false, true_and, and_true, and_self, or_true, true_or, or_false, false_or]; omega)) (by repeat (first | exact zsm_rf | assumption | refine zsm_C (by decide) ?_ | refine zsm_I (by decide) ?_ | refine zsm_J ?_ | refine zsm_c (by assumption) (by decide) ?_)) (by with_reducible repeat (first | exact RO_rf | assumption | refine RO_0 (by decide) ?_ | refine RO_n 20 (by decide) (by omega) ?_ | refine RO_n 5 (by decide) (by omega) ?_ | refine RO_n 60 (by decide) (by omega) ?_ | refine RO_n 1 (by decide) (by omega) ?_ | refine RO_J (by decide) ?_ | refine RO_c (by assumption) ?_)) (by first | omega | (simp only [zuI_1, zuI_2, zuJ_1, zuJ_2, zuJ_3, zuP_1, zuP_2, zuP_3, zuC_1, zuC_2, reduceIte, Nat.reduceEqDiff, false_and, and_false, true_and, and_true, and_self, or_true, true_or, or_false, false_or]; omega))) (zwk_s rfl (zwk_s rfl (zwk_s rfl (zwk_s rfl (zwk_s rfl (zwk_s rfl (zwk_s rfl (zwk_s rfl (zwk_s rfl zwk_0)))))))))
                · skip
                  refine zs_iload_n (pc := 114) C dX9_crumb_114 rfl ?_
                  refine zs_iconst (pc := 115) C dX9_crumb_115 (by decide) ?_
                  refine zs_iload (pc := 116) C dX9_crumb_116 rfl ?_
                  refine zs_ishlF (pc := 118) C dX9_crumb_118 (fun z118 hz1181 hz1182 => ?_)
                  refine zs_iorF (pc := 119) C dX9_crumb_119 (fun z119 hz1191 hz1192 => ?_)
                  refine zs_istore_n (pc := 120) C dX9_crumb_120 (by decide) ?_
                  dsimp only [zset, zclr, znone]
                  refine zs_iload (pc := 121) C dX9_crumb_121 rfl ?_
                  refine zs_iload (pc := 123) C dX9_crumb_123 rfl ?_
                  first | refine zs_iadd (pc := 125) C dX9_crumb_125 (by omega) ?_ | refine zs_iaddF (pc := 125) C dX9_crumb_125 (fun z125 hz1251 hz1252 => ?_)
                  refine zs_istore (pc := 126) C dX9_crumb_126 (by decide) ?_
                  dsimp only [zset, zclr, znone]
                  refine zs_goto (tgt := 160) (pc := 128) C dX9_crumb_128 (by decide) ?_
                  first | refine zs_iinc (pc := 160) C dX9_crumb_160 rfl (by decide) (by omega) ?_ | refine zs_iincF (pc := 160) C dX9_crumb_160 rfl (by decide) (fun z160 hz1601 hz1602 => ?_)
                  dsimp only [zset, zclr, znone]
                  refine zs_goto (tgt := 57) (pc := 163) C dX9_crumb_163 (by decide) ?_
                  exact zs_wk (ih57 _ _ _ _ _ _ (by first | omega | (simp only [zuI_1, zuI_2, zuJ_1, zuJ_2, zuJ_3, zuP_1, zuP_2, zuP_3, zuC_1, zuC_2, reduceIte, Nat.reduceEqDiff, false_and, and_false, true_and, and_true, and_self, or_true, true_or, or_false, false_or]; omega)) (by first | omega | (simp only [zuI_1, zuI_2, zuJ_1, zuJ_2, zuJ_3, zuP_1, zuP_2, zuP_3, zuC_1, zuC_2, reduceIte, Nat.reduceEqDiff, false_and, and_false, true_and, and_true, and_self, or_true, true_or, or_false, false_or]; omega)) (by first | omega | (simp only [zuI_1, zuI_2, zuJ_1, zuJ_2, zuJ_3, zuP_1, zuP_2, zuP_3, zuC_1, zuC_2, reduceIte, Nat.reduceEqDiff, false_and, and_false, true_and, and_true, and_self, or_true, true_or, or_false, false_or]; omega)) (by repeat (first | exact zsm_rf | assumption | refine zsm_C (by decide) ?_ | refine zsm_I (by decide) ?_ | refine zsm_J ?_ | refine zsm_c (by assumption) (by decide) ?_)) (by with_reducible repeat (first | exact RO_rf | assumption | refine RO_0 (by decide) ?_ | refine RO_n 20 (by decide) (by omega) ?_ | refine RO_n 5 (by decide) (by omega) ?_ | refine RO_n 60 (by decide) (by omega) ?_ | refine RO_n 1 (by decide) (by omega) ?_ | refine RO_J (by decide) ?_ | refine RO_c (by assumption) ?_)) (by first | omega | (simp only [zuI_1, zuI_2, zuJ_1, zuJ_2, zuJ_3, zuP_1, zuP_2, zuP_3, zuC_1, zuC_2, reduceIte, Nat.reduceEqDiff, false_and, and_false, true_and, and_true, and_self, or_true, true_or, or_false, false_or]; omega))) (zwk_s rfl (zwk_s rfl (zwk_s rfl (zwk_s rfl (zwk_s rfl (zwk_s rfl (zwk_s rfl (zwk_s rfl (zwk_s rfl zwk_0)))))))))
              · skip
                refine zs_goto (tgt := 160) (pc := 97) C dX9_crumb_97 (by decide) ?_
                first | refine zs_iinc (pc := 160) C dX9_crumb_160 rfl (by decide) (by omega) ?_ | refine zs_iincF (pc := 160) C dX9_crumb_160 rfl (by decide) (fun z160 hz1601 hz1602 => ?_)
                dsimp only [zset, zclr, znone]
                refine zs_goto (tgt := 57) (pc := 163) C dX9_crumb_163 (by decide) ?_
                exact zs_wk (ih57 _ _ _ _ _ _ (by first | omega | (simp only [zuI_1, zuI_2, zuJ_1, zuJ_2, zuJ_3, zuP_1, zuP_2, zuP_3, zuC_1, zuC_2, reduceIte, Nat.reduceEqDiff, false_and, and_false, true_and, and_true, and_self, or_true, true_or, or_false, false_or]; omega)) (by first | omega | (simp only [zuI_1, zuI_2, zuJ_1, zuJ_2, zuJ_3, zuP_1, zuP_2, zuP_3, zuC_1, zuC_2, reduceIte, Nat.reduceEqDiff, false_and, and_false, true_and, and_true, and_self, or_true, true_or, or_false, false_or]; omega)) (by first | omega | (simp only [zuI_1, zuI_2, zuJ_1, zuJ_2, zuJ_3, zuP_1, zuP_2, zuP_3, zuC_1, zuC_2, reduceIte, Nat.reduceEqDiff, false_and, and_false, true_and, and_true, and_self, or_true, true_or, or_false, false_or]; omega)) (by repeat (first | exact zsm_rf | assumption | refine zsm_C (by decide) ?_ | refine zsm_I (by decide) ?_ | refine zsm_J ?_ | refine zsm_c (by assumption) (by decide) ?_)) (by with_reducible repeat (first | exact RO_rf | assumption | refine RO_0 (by decide) ?_ | refine RO_n 20 (by decide) (by omega) ?_ | refine RO_n 5 (by decide) (by omega) ?_ | refine RO_n 60 (by decide) (by omega) ?_ | refine RO_n 1 (by decide) (by omega) ?_ | refine RO_J (by decide) ?_ | refine RO_c (by assumption) ?_)) (by first | omega | (simp only [zuI_1, zuI_2, zuJ_1, zuJ_2, zuJ_3, zuP_1, zuP_2, zuP_3, zuC_1, zuC_2, reduceIte, Nat.reduceEqDiff, false_and, and_false, true_and, and_true, and_self, or_true, true_or, or_false, false_or]; omega))) (zwk_s rfl (zwk_s rfl (zwk_s rfl (zwk_s rfl (zwk_s rfl (zwk_s rfl (zwk_s rfl (zwk_s rfl (zwk_s rfl zwk_0)))))))))
        exact zs_wk (L57 _ _ _ _ _ _ _ (by first | omega | (simp only [zuI_1, zuI_2, zuJ_1, zuJ_2, zuJ_3, zuP_1, zuP_2, zuP_3, zuC_1, zuC_2, reduceIte, Nat.reduceEqDiff, false_and, and_false, true_and, and_true, and_self, or_true, true_or, or_false, false_or]; omega)) (by first | omega | (simp only [zuI_1, zuI_2, zuJ_1, zuJ_2, zuJ_3, zuP_1, zuP_2, zuP_3, zuC_1, zuC_2, reduceIte, Nat.reduceEqDiff, false_and, and_false, true_and, and_true, and_self, or_true, true_or, or_false, false_or]; omega)) (by first | omega | (simp only [zuI_1, zuI_2, zuJ_1, zuJ_2, zuJ_3, zuP_1, zuP_2, zuP_3, zuC_1, zuC_2, reduceIte, Nat.reduceEqDiff, false_and, and_false, true_and, and_true, and_self, or_true, true_or, or_false, false_or]; omega)) (by repeat (first | exact zsm_rf | assumption | refine zsm_C (by decide) ?_ | refine zsm_I (by decide) ?_ | refine zsm_J ?_ | refine zsm_c (by assumption) (by decide) ?_)) (by with_reducible repeat (first | exact RO_rf | assumption | refine RO_0 (by decide) ?_ | refine RO_n 20 (by decide) (by omega) ?_ | refine RO_n 5 (by decide) (by omega) ?_ | refine RO_n 60 (by decide) (by omega) ?_ | refine RO_n 1 (by decide) (by omega) ?_ | refine RO_J (by decide) ?_ | refine RO_c (by assumption) ?_)) (Nat.lt_succ_self _)) (zwk_s rfl (zwk_s rfl (zwk_s rfl (zwk_s rfl (zwk_s rfl (zwk_s rfl (zwk_s rfl (zwk_s rfl (zwk_s rfl zwk_0)))))))))
      · skip
        refine zs_iconst (pc := 28) C dX9_crumb_28 (by decide) ?_
        exact zs_iret (pc := 29) C hr hlk dX9_crumb_29 ⟨by repeat (first | exact zsm_rf | assumption | refine zsm_C (by decide) ?_ | refine zsm_I (by decide) ?_ | refine zsm_J ?_ | refine zsm_c (by assumption) (by decide) ?_), (by with_reducible repeat (first | exact RO_rf | assumption | refine RO_0 (by decide) ?_ | refine RO_n 20 (by decide) (by omega) ?_ | refine RO_n 5 (by decide) (by omega) ?_ | refine RO_n 60 (by decide) (by omega) ?_ | refine RO_n 1 (by decide) (by omega) ?_ | refine RO_J (by decide) ?_ | refine RO_c (by assumption) ?_)), trivial⟩

set_option maxHeartbeats 4000000 in
set_option maxRecDepth 100000 in
theorem c_X9_millsO {l : Launch} {Γ : zΓ} {G : zH} {w : Nat} {a b q : Int} (hX : zXs Γ)  : zMet l Γ yX9_mills cX9_mills 10 (some .int) 1 [zr 10 w, zi a, zi b, zi q] G (zpi (fun x G' => zsm [1002] G G' ∧ RO G G' ∧ True)) := by
  refine zMet_of RX9 hX (by decide) rfl (Nat.le_of_ble_eq_true rfl) ?_
  intro p e s m args below meth c C hr hlk
  show Z p l e (zrm 1) s m args below meth c Γ 10 0 0 (MQ below (zQc Γ (zpi (fun x G' => zsm [1002] G G' ∧ RO G G' ∧ True))) args s 0 0 (zA Γ)) 0 [some (zr 10 w), some (zi a), some (zi b), some (zi q), none, none, none, none, none, none] [] G
  refine zs_loc 1 rfl (fun ha1 hb1 => ?_)
  refine zs_loc 2 rfl (fun ha2 hb2 => ?_)
  refine zs_loc 3 rfl (fun ha3 hb3 => ?_)
  refine zs_aload_n (pc := 0) C dX9_mills_0 rfl ?_
  refine zs_iconst (pc := 1) C dX9_mills_1 (by decide) ?_
  refine zs_puti (r := 1002) (pc := 2) C dX9_mills_2 w_X9_178 f_10_2 rfl (r_1002 0) (by omega) ?_
  refine zs_iload_n (pc := 5) C dX9_mills_5 rfl ?_
  refine zs_iconst (pc := 6) C dX9_mills_6 (by decide) ?_
  refine zs_bipush (pc := 7) C dX9_mills_7 (by decide) (by decide) ?_
  refine zSip3 (pc := 9) C dX9_mills_9 s_X9_223 (c_X9_isIn hX ) (by decide) ⟨Nat.zero_le _, Nat.zero_le _⟩ (Nat.le_of_ble_eq_true rfl) (fun x9 l9 u9 hp9 => ?_)
  have hq9 := hp9
  try simp only [zuI_1, zuI_2, zuJ_1, zuJ_2, zuJ_3, zuP_1, zuP_2, zuP_3, zuC_1, zuC_2, reduceIte, Nat.reduceEqDiff, false_and, and_false, true_and, and_true, and_self, or_true, true_or, or_false, false_or] at hq9
  refine zs_if_eq (tgt := 24) (pc := 12) C dX9_mills_12 (by decide) (fun h12 => ?_) (fun h12 => ?_)
  · skip
    refine zs_iconst (pc := 24) C dX9_mills_24 (by decide) ?_
    exact zs_iret (pc := 25) C hr hlk dX9_mills_25 ⟨by repeat (first | exact zsm_rf | assumption | refine zsm_C (by decide) ?_ | refine zsm_I (by decide) ?_ | refine zsm_J ?_ | refine zsm_c (by assumption) (by decide) ?_), (by with_reducible repeat (first | exact RO_rf | assumption | refine RO_0 (by decide) ?_ | refine RO_n 20 (by decide) (by omega) ?_ | refine RO_n 5 (by decide) (by omega) ?_ | refine RO_n 60 (by decide) (by omega) ?_ | refine RO_n 1 (by decide) (by omega) ?_ | refine RO_J (by decide) ?_ | refine RO_c (by assumption) ?_)), trivial⟩
  · skip
    refine zs_iload_n (pc := 15) C dX9_mills_15 rfl ?_
    refine zs_iconst (pc := 16) C dX9_mills_16 (by decide) ?_
    refine zs_iconst (pc := 17) C dX9_mills_17 (by decide) ?_
    refine zSip3 (pc := 18) C dX9_mills_18 s_X9_223 (c_X9_isIn hX ) (by decide) ⟨Nat.zero_le _, Nat.zero_le _⟩ (Nat.le_of_ble_eq_true rfl) (fun x18 l18 u18 hp18 => ?_)
    have hq18 := hp18
    try simp only [zuI_1, zuI_2, zuJ_1, zuJ_2, zuJ_3, zuP_1, zuP_2, zuP_3, zuC_1, zuC_2, reduceIte, Nat.reduceEqDiff, false_and, and_false, true_and, and_true, and_self, or_true, true_or, or_false, false_or] at hq18
    refine zs_if_ne (tgt := 26) (pc := 21) C dX9_mills_21 (by decide) (fun h21 => ?_) (fun h21 => ?_)
    · skip
      refine zs_iconst (pc := 26) C dX9_mills_26 (by decide) ?_
      refine zs_istore (pc := 27) C dX9_mills_27 (by decide) ?_
      dsimp only [zset, zclr, znone]
      refine zs_iconst (pc := 29) C dX9_mills_29 (by decide) ?_
      refine zs_istore (pc := 30) C dX9_mills_30 (by decide) ?_
      dsimp only [zset, zclr, znone]
      have L32 : ∀ (nn : Nat) (x4 x5 : Int), (0 ≤ x5 ∧ x5 ≤ 10) → (10 - x5).toNat < nn → Z p l e (zrm 1) s m args below meth c Γ 10 0 0 (MQ below (zQc Γ (zpi (fun x G' => zsm [1002] G G' ∧ RO G G' ∧ True))) args s 0 0 (zA Γ)) 32 [some (zr 10 w), some (zi a), some (zi b), some (zi q), some (zi x4), some (zi x5), none, none, none, none] [] (zuI G 1002 w 0 0) := by
        intro nn
        induction nn with
        | zero => intro x4 x5 h32_0 hm; exact absurd hm (Nat.not_lt_zero _)
        | succ nn ih32 =>
          intro x4 x5 h32_0 hm32
          refine zs_iload (pc := 32) C dX9_mills_32 rfl ?_
          refine zs_iload_n (pc := 34) C dX9_mills_34 rfl ?_
          refine zs_icmp_ge (tgt := 79) (pc := 35) C dX9_mills_35 (by decide) (fun h35 => ?_) (fun h35 => ?_)
          · skip
            refine zs_iconst (pc := 79) C dX9_mills_79 (by decide) ?_
            refine zs_istore (pc := 80) C dX9_mills_80 (by decide) ?_
            dsimp only [zset, zclr, znone]
            refine zs_iconst (pc := 82) C dX9_mills_82 (by decide) ?_
            refine zs_istore (pc := 83) C dX9_mills_83 (by decide) ?_
            dsimp only [zset, zclr, znone]
            refine zs_iconst (pc := 85) C dX9_mills_85 (by decide) ?_
            refine zs_istore (pc := 86) C dX9_mills_86 (by decide) ?_
            dsimp only [zset, zclr, znone]
            have L88 : ∀ (nn : Nat) (x5 x6 x7 : Int), (0 ≤ x7 ∧ x7 ≤ 2147483647) → (2147483647 - x7).toNat < nn → Z p l e (zrm 1) s m args below meth c Γ 10 0 0 (MQ below (zQc Γ (zpi (fun x G' => zsm [1002] G G' ∧ RO G G' ∧ True))) args s 0 0 (zA Γ)) 88 [some (zr 10 w), some (zi a), some (zi b), some (zi q), some (zi x4), some (zi x5), some (zi x6), some (zi x7), none, none] [] (zuI G 1002 w 0 0) := by
              intro nn
              induction nn with
              | zero => intro x5 x6 x7 h88_0 hm; exact absurd hm (Nat.not_lt_zero _)
              | succ nn ih88 =>
                intro x5 x6 x7 h88_0 hm88
                refine zs_iload (pc := 88) C dX9_mills_88 rfl ?_
                refine zs_iconst (pc := 90) C dX9_mills_90 (by decide) ?_
                refine zs_iload_n (pc := 91) C dX9_mills_91 rfl ?_
                refine zs_ishlF (pc := 92) C dX9_mills_92 (fun z92 hz921 hz922 => ?_)
                refine zs_icmp_ge (tgt := 197) (pc := 93) C dX9_mills_93 (by decide) (fun h93 => ?_) (fun h93 => ?_)
                · skip
                  refine zs_iload_n (pc := 197) C dX9_mills_197 rfl ?_
                  refine zs_if_ne (tgt := 206) (pc := 198) C dX9_mills_198 (by decide) (fun h198 => ?_) (fun h198 => ?_)
                  · skip
                    refine zs_iload (pc := 206) C dX9_mills_206 rfl ?_
                    exact zs_iret (pc := 208) C hr hlk dX9_mills_208 ⟨by repeat (first | exact zsm_rf | assumption | refine zsm_C (by decide) ?_ | refine zsm_I (by decide) ?_ | refine zsm_J ?_ | refine zsm_c (by assumption) (by decide) ?_), (by with_reducible repeat (first | exact RO_rf | assumption | refine RO_0 (by decide) ?_ | refine RO_n 20 (by decide) (by omega) ?_ | refine RO_n 5 (by decide) (by omega) ?_ | refine RO_n 60 (by decide) (by omega) ?_ | refine RO_n 1 (by decide) (by omega) ?_ | refine RO_J (by decide) ?_ | refine RO_c (by assumption) ?_)), trivial⟩
                  · skip
                    refine zs_iload (pc := 201) C dX9_mills_201 rfl ?_
                    refine zs_goto (tgt := 208) (pc := 203) C dX9_mills_203 (by decide) ?_
                    exact zs_iret (pc := 208) C hr hlk dX9_mills_208 ⟨by repeat (first | exact zsm_rf | assumption | refine zsm_C (by decide) ?_ | refine zsm_I (by decide) ?_ | refine zsm_J ?_ | refine zsm_c (by assumption) (by decide) ?_), (by with_reducible repeat (first | exact RO_rf | assumption | refine RO_0 (by decide) ?_ | refine RO_n 20 (by decide) (by omega) ?_ | refine RO_n 5 (by decide) (by omega) ?_ | refine RO_n 60 (by decide) (by omega) ?_ | refine RO_n 1 (by decide) (by omega) ?_ | refine RO_J (by decide) ?_ | refine RO_c (by assumption) ?_)), trivial⟩
                · skip
                  refine zs_iconst (pc := 96) C dX9_mills_96 (by decide) ?_
                  refine zs_istore (pc := 97) C dX9_mills_97 (by decide) ?_
                  dsimp only [zset, zclr, znone]
                  refine zs_iconst (pc := 99) C dX9_mills_99 (by decide) ?_
                  refine zs_istore (pc := 100) C dX9_mills_100 (by decide) ?_
                  dsimp only [zset, zclr, znone]
                  have L102 : ∀ (nn : Nat) (x8 x9 : Int), (0 ≤ x9 ∧ x9 ≤ 10) → (10 - x9).toNat < nn → Z p l e (zrm 1) s m args below meth c Γ 10 0 0 (MQ below (zQc Γ (zpi (fun x G' => zsm [1002] G G' ∧ RO G G' ∧ True))) args s 0 0 (zA Γ)) 102 [some (zr 10 w), some (zi a), some (zi b), some (zi q), some (zi x4), some (zi x5), some (zi x6), some (zi x7), some (zi x8), some (zi x9)] [] (zuI G 1002 w 0 0) := by
                    intro nn
                    induction nn with
                    | zero => intro x8 x9 h102_0 hm; exact absurd hm (Nat.not_lt_zero _)
                    | succ nn ih102 =>
                      intro x8 x9 h102_0 hm102
                      refine zs_iload (pc := 102) C dX9_mills_102 rfl ?_
                      refine zs_iload_n (pc := 104) C dX9_mills_104 rfl ?_
                      refine zs_icmp_ge (tgt := 146) (pc := 105) C dX9_mills_105 (by decide) (fun h105 => ?_) (fun h105 => ?_)
                      · skip
                        refine zs_iload (pc := 146) C dX9_mills_146 rfl ?_
                        refine zs_iload (pc := 148) C dX9_mills_148 rfl ?_
                        refine zs_iload (pc := 150) C dX9_mills_150 rfl ?_
                        first | refine zs_isub (pc := 152) C dX9_mills_152 (by omega) ?_ | refine zs_isubF (pc := 152) C dX9_mills_152 (fun z152 hz1521 hz1522 => ?_)
                        refine zs_icmp_le (tgt := 161) (pc := 153) C dX9_mills_153 (by decide) (fun h153 => ?_) (fun h153 => ?_)
                        · skip
                          refine zs_iload (pc := 161) C dX9_mills_161 rfl ?_
                          refine zs_iload (pc := 163) C dX9_mills_163 rfl ?_
                          first | refine zs_isub (pc := 165) C dX9_mills_165 (by omega) ?_ | refine zs_isubF (pc := 165) C dX9_mills_165 (fun z165 hz1651 hz1652 => ?_)
                          refine zs_istore (pc := 166) C dX9_mills_166 (by decide) ?_
                          dsimp only [zset, zclr, znone]
                          have J191 : ∀ (x5 x6 : Int), Z p l e (zrm 1) s m args below meth c Γ 10 0 0 (MQ below (zQc Γ (zpi (fun x G' => zsm [1002] G G' ∧ RO G G' ∧ True))) args s 0 0 (zA Γ)) 191 [some (zr 10 w), some (zi a), some (zi b), some (zi q), some (zi x4), some (zi x5), some (zi x6), some (zi x7), none, none] [] (zuI G 1002 w 0 0) := by
                            intro x5 x6 
                            first | refine zs_iinc (pc := 191) C dX9_mills_191 rfl (by decide) (by omega) ?_ | refine zs_iincF (pc := 191) C dX9_mills_191 rfl (by decide) (fun z191 hz1911 hz1912 => ?_)
                            dsimp only [zset, zclr, znone]
                            refine zs_goto (tgt := 88) (pc := 194) C dX9_mills_194 (by decide) ?_
                            exact zs_wk (ih88 _ _ _ (by first | omega | (simp only [zuI_1, zuI_2, zuJ_1, zuJ_2, zuJ_3, zuP_1, zuP_2, zuP_3, zuC_1, zuC_2, reduceIte, Nat.reduceEqDiff, false_and, and_false, true_and, and_true, and_self, or_true, true_or, or_false, false_or]; omega)) (by first | omega | (simp only [zuI_1, zuI_2, zuJ_1, zuJ_2, zuJ_3, zuP_1, zuP_2, zuP_3, zuC_1, zuC_2, reduceIte, Nat.reduceEqDiff, false_and, and_false, true_and, and_true, and_self, or_true, true_or, or_false, false_or]; omega))) (zwk_s rfl (zwk_s rfl (zwk_s rfl (zwk_s rfl (zwk_s rfl (zwk_s rfl (zwk_s rfl (zwk_s rfl (zwk_n (zwk_n zwk_0))))))))))
                          refine zs_iload (pc := 168) C dX9_mills_168 rfl ?_
                          refine zs_if_lt (tgt := 183) (pc := 170) C dX9_mills_170 (by decide) (fun h170 => ?_) (fun h170 => ?_)
                          · skip
                            refine zs_iload (pc := 183) C dX9_mills_183 rfl ?_
                            refine zs_istore (pc := 185) C dX9_mills_185 (by decide) ?_
                            dsimp only [zset, zclr, znone]
                            refine zs_iload (pc := 187) C dX9_mills_187 rfl ?_
                            refine zs_istore (pc := 189) C dX9_mills_189 (by decide) ?_
                            dsimp only [zset, zclr, znone]
                            exact zs_wk (J191 _ _ ) (zwk_s rfl (zwk_s rfl (zwk_s rfl (zwk_s rfl (zwk_s rfl (zwk_s rfl (zwk_s rfl (zwk_s rfl (zwk_n (zwk_n zwk_0))))))))))
                          · skip
                            refine zs_iload (pc := 173) C dX9_mills_173 rfl ?_
                            refine zs_iload (pc := 175) C dX9_mills_175 rfl ?_
                            refine zs_icmp_lt (tgt := 183) (pc := 177) C dX9_mills_177 (by decide) (fun h177 => ?_) (fun h177 => ?_)
                            · skip
                              refine zs_iload (pc := 183) C dX9_mills_183 rfl ?_
                              refine zs_istore (pc := 185) C dX9_mills_185 (by decide) ?_
                              dsimp only [zset, zclr, znone]
                              refine zs_iload (pc := 187) C dX9_mills_187 rfl ?_
                              refine zs_istore (pc := 189) C dX9_mills_189 (by decide) ?_
                              dsimp only [zset, zclr, znone]
                              exact zs_wk (J191 _ _ ) (zwk_s rfl (zwk_s rfl (zwk_s rfl (zwk_s rfl (zwk_s rfl (zwk_s rfl (zwk_s rfl (zwk_s rfl (zwk_n (zwk_n zwk_0))))))))))
                            · skip
                              refine zs_goto (tgt := 191) (pc := 180) C dX9_mills_180 (by decide) ?_
                              exact zs_wk (J191 _ _ ) (zwk_s rfl (zwk_s rfl (zwk_s rfl (zwk_s rfl (zwk_s rfl (zwk_s rfl (zwk_s rfl (zwk_s rfl (zwk_n (zwk_n zwk_0))))))))))
                        · skip
                          refine zs_iload (pc := 156) C dX9_mills_156 rfl ?_
                          refine zs_goto (tgt := 166) (pc := 158) C dX9_mills_158 (by decide) ?_
                          refine zs_istore (pc := 166) C dX9_mills_166 (by decide) ?_
                          dsimp only [zset, zclr, znone]
                          have J191 : ∀ (x5 x6 : Int), Z p l e (zrm 1) s m args below meth c Γ 10 0 0 (MQ below (zQc Γ (zpi (fun x G' => zsm [1002] G G' ∧ RO G G' ∧ True))) args s 0 0 (zA Γ)) 191 [some (zr 10 w), some (zi a), some (zi b), some (zi q), some (zi x4), some (zi x5), some (zi x6), some (zi x7), none, none] [] (zuI G 1002 w 0 0) := by
                            intro x5 x6 
                            first | refine zs_iinc (pc := 191) C dX9_mills_191 rfl (by decide) (by omega) ?_ | refine zs_iincF (pc := 191) C dX9_mills_191 rfl (by decide) (fun z191 hz1911 hz1912 => ?_)
                            dsimp only [zset, zclr, znone]
                            refine zs_goto (tgt := 88) (pc := 194) C dX9_mills_194 (by decide) ?_
                            exact zs_wk (ih88 _ _ _ (by first | omega | (simp only [zuI_1, zuI_2, zuJ_1, zuJ_2, zuJ_3, zuP_1, zuP_2, zuP_3, zuC_1, zuC_2, reduceIte, Nat.reduceEqDiff, false_and, and_false, true_and, and_true, and_self, or_true, true_or, or_false, false_or]; omega)) (by first | omega | (simp only [zuI_1, zuI_2, zuJ_1, zuJ_2, zuJ_3, zuP_1, zuP_2, zuP_3, zuC_1, zuC_2, reduceIte, Nat.reduceEqDiff, false_and, and_false, true_and, and_true, and_self, or_true, true_or, or_false, false_or]; omega))) (zwk_s rfl (zwk_s rfl (zwk_s rfl (zwk_s rfl (zwk_s rfl (zwk_s rfl (zwk_s rfl (zwk_s rfl (zwk_n (zwk_n zwk_0))))))))))
                          refine zs_iload (pc := 168) C dX9_mills_168 rfl ?_
                          refine zs_if_lt (tgt := 183) (pc := 170) C dX9_mills_170 (by decide) (fun h170 => ?_) (fun h170 => ?_)
                          · skip
                            refine zs_iload (pc := 183) C dX9_mills_183 rfl ?_
                            refine zs_istore (pc := 185) C dX9_mills_185 (by decide) ?_
                            dsimp only [zset, zclr, znone]
                            refine zs_iload (pc := 187) C dX9_mills_187 rfl ?_
                            refine zs_istore (pc := 189) C dX9_mills_189 (by decide) ?_
                            dsimp only [zset, zclr, znone]
                            exact zs_wk (J191 _ _ ) (zwk_s rfl (zwk_s rfl (zwk_s rfl (zwk_s rfl (zwk_s rfl (zwk_s rfl (zwk_s rfl (zwk_s rfl (zwk_n (zwk_n zwk_0))))))))))
                          · skip
                            refine zs_iload (pc := 173) C dX9_mills_173 rfl ?_
                            refine zs_iload (pc := 175) C dX9_mills_175 rfl ?_
                            refine zs_icmp_lt (tgt := 183) (pc := 177) C dX9_mills_177 (by decide) (fun h177 => ?_) (fun h177 => ?_)
                            · skip
                              refine zs_iload (pc := 183) C dX9_mills_183 rfl ?_
                              refine zs_istore (pc := 185) C dX9_mills_185 (by decide) ?_
                              dsimp only [zset, zclr, znone]
                              refine zs_iload (pc := 187) C dX9_mills_187 rfl ?_
                              refine zs_istore (pc := 189) C dX9_mills_189 (by decide) ?_
                              dsimp only [zset, zclr, znone]
                              exact zs_wk (J191 _ _ ) (zwk_s rfl (zwk_s rfl (zwk_s rfl (zwk_s rfl (zwk_s rfl (zwk_s rfl (zwk_s rfl (zwk_s rfl (zwk_n (zwk_n zwk_0))))))))))
                            · skip
                              refine zs_goto (tgt := 191) (pc := 180) C dX9_mills_180 (by decide) ?_
                              exact zs_wk (J191 _ _ ) (zwk_s rfl (zwk_s rfl (zwk_s rfl (zwk_s rfl (zwk_s rfl (zwk_s rfl (zwk_s rfl (zwk_s rfl (zwk_n (zwk_n zwk_0))))))))))
                      · skip
                        refine zs_iload (pc := 108) C dX9_mills_108 rfl ?_
                        refine zs_iload (pc := 110) C dX9_mills_110 rfl ?_
                        refine zs_iload (pc := 112) C dX9_mills_112 rfl ?_
                        refine zSip2 (pc := 114) C dX9_mills_114 s_X9_516 (c_X9_isOf hX ) (by decide) ⟨Nat.zero_le _, Nat.zero_le _⟩ (Nat.le_of_ble_eq_true rfl) (fun x114 l114 u114 hp114 => ?_)
                        have hq114 := hp114
                        refine zs_if_eq (tgt := 136) (pc := 117) C dX9_mills_117 (by decide) (fun h117 => ?_) (fun h117 => ?_)
                        · skip
                          refine zs_iconst (pc := 136) C dX9_mills_136 (by decide) ?_
                          first | refine zs_iadd (pc := 137) C dX9_mills_137 (by omega) ?_ | refine zs_iaddF (pc := 137) C dX9_mills_137 (fun z137 hz1371 hz1372 => ?_)
                          refine zs_istore (pc := 138) C dX9_mills_138 (by decide) ?_
                          dsimp only [zset, zclr, znone]
                          first | refine zs_iinc (pc := 140) C dX9_mills_140 rfl (by decide) (by omega) ?_ | refine zs_iincF (pc := 140) C dX9_mills_140 rfl (by decide) (fun z140 hz1401 hz1402 => ?_)
                          dsimp only [zset, zclr, znone]
                          refine zs_goto (tgt := 102) (pc := 143) C dX9_mills_143 (by decide) ?_
                          exact zs_wk (ih102 _ _ (by first | omega | (simp only [zuI_1, zuI_2, zuJ_1, zuJ_2, zuJ_3, zuP_1, zuP_2, zuP_3, zuC_1, zuC_2, reduceIte, Nat.reduceEqDiff, false_and, and_false, true_and, and_true, and_self, or_true, true_or, or_false, false_or]; omega)) (by first | omega | (simp only [zuI_1, zuI_2, zuJ_1, zuJ_2, zuJ_3, zuP_1, zuP_2, zuP_3, zuC_1, zuC_2, reduceIte, Nat.reduceEqDiff, false_and, and_false, true_and, and_true, and_self, or_true, true_or, or_false, false_or]; omega))) (zwk_s rfl (zwk_s rfl (zwk_s rfl (zwk_s rfl (zwk_s rfl (zwk_s rfl (zwk_s rfl (zwk_s rfl (zwk_s rfl (zwk_s rfl zwk_0))))))))))
                        · skip
                          refine zs_aload_n (pc := 120) C dX9_mills_120 rfl ?_
                          refine zs_getf (pc := 121) C dX9_mills_121 w_X9_30 f_10_25 (by decide) ?_
                          refine zs_iload_n (pc := 124) C dX9_mills_124 rfl ?_
                          refine zs_iconst (pc := 125) C dX9_mills_125 (by decide) ?_
                          refine zs_iload (pc := 126) C dX9_mills_126 rfl ?_
                          first | refine zs_imul (pc := 128) C dX9_mills_128 (by omega) ?_ | refine zs_imulF (pc := 128) C dX9_mills_128 (fun z128 hz1281 hz1282 => ?_)
                          refine zs_ishrF (pc := 129) C dX9_mills_129 (fun z129 hz1291 hz1292 => ?_)
                          refine zs_iconst (pc := 130) C dX9_mills_130 (by decide) ?_
                          first | refine zs_iand (pc := 131) C 1 dX9_mills_131 (by decide) (by decide) (fun z131 hz1311 hz1312 => ?_) | refine zs_iand (pc := 131) C 2 dX9_mills_131 (by decide) (by decide) (fun z131 hz1311 hz1312 => ?_) | refine zs_iand (pc := 131) C 8 dX9_mills_131 (by decide) (by decide) (fun z131 hz1311 hz1312 => ?_) | refine zs_iandF (pc := 131) C dX9_mills_131 (fun z131 hz1311 hz1312 => ?_)
                          refine zs_iald (r := 2062) (pc := 132) C dX9_mills_132 a_62 (by decide) (by omega) rfl (r_2062 _) (fun v132 e132 l132 u132 => ?_)
                          refine zs_goto (tgt := 137) (pc := 133) C dX9_mills_133 (by decide) ?_
                          first | refine zs_iadd (pc := 137) C dX9_mills_137 (by omega) ?_ | refine zs_iaddF (pc := 137) C dX9_mills_137 (fun z137 hz1371 hz1372 => ?_)
                          refine zs_istore (pc := 138) C dX9_mills_138 (by decide) ?_
                          dsimp only [zset, zclr, znone]
                          first | refine zs_iinc (pc := 140) C dX9_mills_140 rfl (by decide) (by omega) ?_ | refine zs_iincF (pc := 140) C dX9_mills_140 rfl (by decide) (fun z140 hz1401 hz1402 => ?_)
                          dsimp only [zset, zclr, znone]
                          refine zs_goto (tgt := 102) (pc := 143) C dX9_mills_143 (by decide) ?_
                          exact zs_wk (ih102 _ _ (by first | omega | (simp only [zuI_1, zuI_2, zuJ_1, zuJ_2, zuJ_3, zuP_1, zuP_2, zuP_3, zuC_1, zuC_2, reduceIte, Nat.reduceEqDiff, false_and, and_false, true_and, and_true, and_self, or_true, true_or, or_false, false_or]; omega)) (by first | omega | (simp only [zuI_1, zuI_2, zuJ_1, zuJ_2, zuJ_3, zuP_1, zuP_2, zuP_3, zuC_1, zuC_2, reduceIte, Nat.reduceEqDiff, false_and, and_false, true_and, and_true, and_self, or_true, true_or, or_false, false_or]; omega))) (zwk_s rfl (zwk_s rfl (zwk_s rfl (zwk_s rfl (zwk_s rfl (zwk_s rfl (zwk_s rfl (zwk_s rfl (zwk_s rfl (zwk_s rfl zwk_0))))))))))
                  exact zs_wk (L102 _ _ _ (by first | omega | (simp only [zuI_1, zuI_2, zuJ_1, zuJ_2, zuJ_3, zuP_1, zuP_2, zuP_3, zuC_1, zuC_2, reduceIte, Nat.reduceEqDiff, false_and, and_false, true_and, and_true, and_self, or_true, true_or, or_false, false_or]; omega)) (Nat.lt_succ_self _)) (zwk_s rfl (zwk_s rfl (zwk_s rfl (zwk_s rfl (zwk_s rfl (zwk_s rfl (zwk_s rfl (zwk_s rfl (zwk_s rfl (zwk_s rfl zwk_0))))))))))
            exact zs_wk (L88 _ _ _ _ (by first | omega | (simp only [zuI_1, zuI_2, zuJ_1, zuJ_2, zuJ_3, zuP_1, zuP_2, zuP_3, zuC_1, zuC_2, reduceIte, Nat.reduceEqDiff, false_and, and_false, true_and, and_true, and_self, or_true, true_or, or_false, false_or]; omega)) (Nat.lt_succ_self _)) (zwk_s rfl (zwk_s rfl (zwk_s rfl (zwk_s rfl (zwk_s rfl (zwk_s rfl (zwk_s rfl (zwk_s rfl (zwk_n (zwk_n zwk_0))))))))))
          · skip
            refine zs_aload_n (pc := 38) C dX9_mills_38 rfl ?_
            refine zs_iload_n (pc := 39) C dX9_mills_39 rfl ?_
            refine zs_iconst (pc := 40) C dX9_mills_40 (by decide) ?_
            refine zs_iload (pc := 41) C dX9_mills_41 rfl ?_
            first | refine zs_imul (pc := 43) C dX9_mills_43 (by omega) ?_ | refine zs_imulF (pc := 43) C dX9_mills_43 (fun z43 hz431 hz432 => ?_)
            refine zs_ishrF (pc := 44) C dX9_mills_44 (fun z44 hz441 hz442 => ?_)
            refine zs_iconst (pc := 45) C dX9_mills_45 (by decide) ?_
            first | refine zs_iand (pc := 46) C 1 dX9_mills_46 (by decide) (by decide) (fun z46 hz461 hz462 => ?_) | refine zs_iand (pc := 46) C 2 dX9_mills_46 (by decide) (by decide) (fun z46 hz461 hz462 => ?_) | refine zs_iand (pc := 46) C 8 dX9_mills_46 (by decide) (by decide) (fun z46 hz461 hz462 => ?_) | refine zs_iandF (pc := 46) C dX9_mills_46 (fun z46 hz461 hz462 => ?_)
            refine zVip1 (pc := 47) C dX9_mills_47 v_X9_407 (c_X9_isSin hX ) (by decide) (by decide) ⟨Nat.zero_le _, Nat.zero_le _⟩ (Nat.le_of_ble_eq_true rfl) (fun x47 l47 u47 hp47 => ?_)
            have hq47 := hp47
            refine zs_if_ne (tgt := 55) (pc := 50) C dX9_mills_50 (by decide) (fun h50 => ?_) (fun h50 => ?_)
            · skip
              refine zs_iload (pc := 55) C dX9_mills_55 rfl ?_
              refine zs_aload_n (pc := 57) C dX9_mills_57 rfl ?_
              refine zs_getf (pc := 58) C dX9_mills_58 w_X9_30 f_10_25 (by decide) ?_
              refine zs_iload_n (pc := 61) C dX9_mills_61 rfl ?_
              refine zs_iconst (pc := 62) C dX9_mills_62 (by decide) ?_
              refine zs_iload (pc := 63) C dX9_mills_63 rfl ?_
              first | refine zs_imul (pc := 65) C dX9_mills_65 (by omega) ?_ | refine zs_imulF (pc := 65) C dX9_mills_65 (fun z65 hz651 hz652 => ?_)
              refine zs_ishrF (pc := 66) C dX9_mills_66 (fun z66 hz661 hz662 => ?_)
              refine zs_iconst (pc := 67) C dX9_mills_67 (by decide) ?_
              first | refine zs_iand (pc := 68) C 1 dX9_mills_68 (by decide) (by decide) (fun z68 hz681 hz682 => ?_) | refine zs_iand (pc := 68) C 2 dX9_mills_68 (by decide) (by decide) (fun z68 hz681 hz682 => ?_) | refine zs_iand (pc := 68) C 8 dX9_mills_68 (by decide) (by decide) (fun z68 hz681 hz682 => ?_) | refine zs_iandF (pc := 68) C dX9_mills_68 (fun z68 hz681 hz682 => ?_)
              refine zs_iald (r := 2062) (pc := 69) C dX9_mills_69 a_62 (by decide) (by omega) rfl (r_2062 _) (fun v69 e69 l69 u69 => ?_)
              first | refine zs_iadd (pc := 70) C dX9_mills_70 (by omega) ?_ | refine zs_iaddF (pc := 70) C dX9_mills_70 (fun z70 hz701 hz702 => ?_)
              refine zs_istore (pc := 71) C dX9_mills_71 (by decide) ?_
              dsimp only [zset, zclr, znone]
              first | refine zs_iinc (pc := 73) C dX9_mills_73 rfl (by decide) (by omega) ?_ | refine zs_iincF (pc := 73) C dX9_mills_73 rfl (by decide) (fun z73 hz731 hz732 => ?_)
              dsimp only [zset, zclr, znone]
              refine zs_goto (tgt := 32) (pc := 76) C dX9_mills_76 (by decide) ?_
              exact zs_wk (ih32 _ _ (by first | omega | (simp only [zuI_1, zuI_2, zuJ_1, zuJ_2, zuJ_3, zuP_1, zuP_2, zuP_3, zuC_1, zuC_2, reduceIte, Nat.reduceEqDiff, false_and, and_false, true_and, and_true, and_self, or_true, true_or, or_false, false_or]; omega)) (by first | omega | (simp only [zuI_1, zuI_2, zuJ_1, zuJ_2, zuJ_3, zuP_1, zuP_2, zuP_3, zuC_1, zuC_2, reduceIte, Nat.reduceEqDiff, false_and, and_false, true_and, and_true, and_self, or_true, true_or, or_false, false_or]; omega))) (zwk_s rfl (zwk_s rfl (zwk_s rfl (zwk_s rfl (zwk_s rfl (zwk_s rfl (zwk_n (zwk_n (zwk_n (zwk_n zwk_0))))))))))
            · skip
              refine zs_iconst (pc := 53) C dX9_mills_53 (by decide) ?_
              exact zs_iret (pc := 54) C hr hlk dX9_mills_54 ⟨by repeat (first | exact zsm_rf | assumption | refine zsm_C (by decide) ?_ | refine zsm_I (by decide) ?_ | refine zsm_J ?_ | refine zsm_c (by assumption) (by decide) ?_), (by with_reducible repeat (first | exact RO_rf | assumption | refine RO_0 (by decide) ?_ | refine RO_n 20 (by decide) (by omega) ?_ | refine RO_n 5 (by decide) (by omega) ?_ | refine RO_n 60 (by decide) (by omega) ?_ | refine RO_n 1 (by decide) (by omega) ?_ | refine RO_J (by decide) ?_ | refine RO_c (by assumption) ?_)), trivial⟩
      exact zs_wk (L32 _ _ _ (by first | omega | (simp only [zuI_1, zuI_2, zuJ_1, zuJ_2, zuJ_3, zuP_1, zuP_2, zuP_3, zuC_1, zuC_2, reduceIte, Nat.reduceEqDiff, false_and, and_false, true_and, and_true, and_self, or_true, true_or, or_false, false_or]; omega)) (Nat.lt_succ_self _)) (zwk_s rfl (zwk_s rfl (zwk_s rfl (zwk_s rfl (zwk_s rfl (zwk_s rfl (zwk_n (zwk_n (zwk_n (zwk_n zwk_0))))))))))
    · skip
      refine zs_iconst (pc := 24) C dX9_mills_24 (by decide) ?_
      exact zs_iret (pc := 25) C hr hlk dX9_mills_25 ⟨by repeat (first | exact zsm_rf | assumption | refine zsm_C (by decide) ?_ | refine zsm_I (by decide) ?_ | refine zsm_J ?_ | refine zsm_c (by assumption) (by decide) ?_), (by with_reducible repeat (first | exact RO_rf | assumption | refine RO_0 (by decide) ?_ | refine RO_n 20 (by decide) (by omega) ?_ | refine RO_n 5 (by decide) (by omega) ?_ | refine RO_n 60 (by decide) (by omega) ?_ | refine RO_n 1 (by decide) (by omega) ?_ | refine RO_J (by decide) ?_ | refine RO_c (by assumption) ?_)), trivial⟩

set_option maxHeartbeats 4000000 in
set_option maxRecDepth 100000 in
theorem c_X9_nextMatesO {l : Launch} {Γ : zΓ} {G : zH} {w : Nat}  (hX : zXs Γ) (hrw : ∀ i : Nat, i < 5 → G.1 2103 (Γ.2.1 w 80) i ≤ 5) : zMet l Γ yX9_nextMates cX9_nextMates 2 (some .boolean) 0 [zr 10 w] G (zpi (fun x G' => zsm [2103] G G' ∧ RO G G' ∧ ((x = 0 ∨ x = 1) ∧ (∀ i : Nat, i < 5 → G'.1 2103 (Γ.2.1 w 80) i ≤ 5) ∧ (x = 1 → zod 7 (G.1 2103 (Γ.2.1 w 80)) 5 < zod 7 (G'.1 2103 (Γ.2.1 w 80)) 5)))) := by
  refine zMet_of RX9 hX (by decide) rfl (Nat.le_of_ble_eq_true rfl) ?_
  intro p e s m args below meth c C hr hlk
  show Z p l e (zrm 0) s m args below meth c Γ 2 0 0 (MQ below (zQc Γ (zpi (fun x G' => zsm [2103] G G' ∧ RO G G' ∧ ((x = 0 ∨ x = 1) ∧ (∀ i : Nat, i < 5 → G'.1 2103 (Γ.2.1 w 80) i ≤ 5) ∧ (x = 1 → zod 7 (G.1 2103 (Γ.2.1 w 80)) 5 < zod 7 (G'.1 2103 (Γ.2.1 w 80)) 5))))) args s 0 0 (zA Γ)) 0 [some (zr 10 w), none] [] G
  refine zs_good (fun hGd0 => ?_)
  refine zs_aload_n (pc := 0) C dX9_nextMates_0 rfl ?_
  refine zs_geti (r := 1013) (pc := 1) C dX9_nextMates_1 w_X9_261 f_10_13 rfl (r_1013 0) (fun v1 e1 l1 u1 => ?_)
  refine zs_iconst (pc := 4) C dX9_nextMates_4 (by decide) ?_
  first | refine zs_isub (pc := 5) C dX9_nextMates_5 (by omega) ?_ | refine zs_isubF (pc := 5) C dX9_nextMates_5 (fun z5 hz51 hz52 => ?_)
  refine zs_istore_n (pc := 6) C dX9_nextMates_6 (by decide) ?_
  dsimp only [zset, zclr, znone]
  have L7 : ∀ (nn : Nat) (x1 : Int) (G1 : zH), (-1 ≤ x1 ∧ x1 ≤ 4) → (zsm [2103] G G1) → (∀ i : Nat, (i : Int) ≤ x1 → G1.1 2103 (Γ.2.1 w 80) i = G.1 2103 (Γ.2.1 w 80) i) → (∀ i : Nat, i < 5 → G1.1 2103 (Γ.2.1 w 80) i ≤ 5) → (RO G G1) → (x1 + 1).toNat < nn → Z p l e (zrm 0) s m args below meth c Γ 2 0 0 (MQ below (zQc Γ (zpi (fun x G' => zsm [2103] G G' ∧ RO G G' ∧ ((x = 0 ∨ x = 1) ∧ (∀ i : Nat, i < 5 → G'.1 2103 (Γ.2.1 w 80) i ≤ 5) ∧ (x = 1 → zod 7 (G.1 2103 (Γ.2.1 w 80)) 5 < zod 7 (G'.1 2103 (Γ.2.1 w 80)) 5))))) args s 0 0 (zA Γ)) 7 [some (zr 10 w), some (zi x1)] [] G1 := by
    intro nn
    induction nn with
    | zero => intro x1 G1 h7_0 h7_1 h7_2 h7_3 h7_4 hm; exact absurd hm (Nat.not_lt_zero _)
    | succ nn ih7 =>
      intro x1 G1 h7_0 h7_1 h7_2 h7_3 h7_4 hm7
      refine zs_iload_n (pc := 7) C dX9_nextMates_7 rfl ?_
      refine zs_if_lt (tgt := 49) (pc := 8) C dX9_nextMates_8 (by decide) (fun h8 => ?_) (fun h8 => ?_)
      · skip
        refine zs_iconst (pc := 49) C dX9_nextMates_49 (by decide) ?_
        exact zs_zret (pc := 50) C hr hlk dX9_nextMates_50 (by omega) ⟨by repeat (first | exact zsm_rf | assumption | refine zsm_C (by decide) ?_ | refine zsm_I (by decide) ?_ | refine zsm_J ?_ | refine zsm_c (by assumption) (by decide) ?_), (by with_reducible repeat (first | exact RO_rf | assumption | refine RO_0 (by decide) ?_ | refine RO_n 20 (by decide) (by omega) ?_ | refine RO_n 5 (by decide) (by omega) ?_ | refine RO_n 60 (by decide) (by omega) ?_ | refine RO_n 1 (by decide) (by omega) ?_ | refine RO_J (by decide) ?_ | refine RO_c (by assumption) ?_)), by first | exact ⟨by omega, hh2, fun _ => hh3⟩ | exact ⟨by omega, h7_3, fun q => absurd q (by omega)⟩⟩
      · skip
        refine zs_good (fun hGd1 => ?_)
        have hx2 : (x1.toNat : Int) = x1 := by omega
        have hk2 := h7_2 x1.toNat (by omega)
        have hk3 := h7_3 x1.toNat (by omega)
        refine zs_aload_n (pc := 11) C dX9_nextMates_11 rfl ?_
        refine zs_getf (pc := 12) C dX9_nextMates_12 w_X9_157 f_10_80 (by decide) ?_
        refine zs_iload_n (pc := 15) C dX9_nextMates_15 rfl ?_
        refine zs_dup2 (pc := 16) C dX9_nextMates_16 ?_
        refine zs_iald (r := 2103) (pc := 17) C dX9_nextMates_17 a_103 (by decide) (by omega) rfl (r_2103 _) (fun v17 e17 l17 u17 => ?_)
        refine zs_iconst (pc := 18) C dX9_nextMates_18 (by decide) ?_
        first | refine zs_iadd (pc := 19) C dX9_nextMates_19 (by omega) ?_ | refine zs_iaddF (pc := 19) C dX9_nextMates_19 (fun z19 hz191 hz192 => ?_)
        refine zs_iast (r := 2103) (pc := 20) C dX9_nextMates_20 a_103 (by decide) (by omega) rfl (r_2103 _) (by omega) ?_
        refine zs_aload_n (pc := 21) C dX9_nextMates_21 rfl ?_
        refine zs_getf (pc := 22) C dX9_nextMates_22 w_X9_157 f_10_80 (by decide) ?_
        refine zs_iload_n (pc := 25) C dX9_nextMates_25 rfl ?_
        refine zs_iald (r := 2103) (pc := 26) C dX9_nextMates_26 a_103 (by decide) (by omega) rfl (r_2103 _) (fun v26 e26 l26 u26 => ?_)
        try simp only [zuI_1, zuI_2, zuJ_1, zuJ_2, zuJ_3, zuP_1, zuP_2, zuP_3, zuC_1, zuC_2, reduceIte, Nat.reduceEqDiff, false_and, and_false, true_and, and_true, and_self, or_true, true_or, or_false, false_or] at e26
        refine zs_aload_n (pc := 27) C dX9_nextMates_27 rfl ?_
        refine zs_geti (r := 1013) (pc := 28) C dX9_nextMates_28 w_X9_261 f_10_13 rfl (r_1013 0) (fun v28 e28 l28 u28 => ?_)
        try simp only [zuI_1, zuI_2, zuJ_1, zuJ_2, zuJ_3, zuP_1, zuP_2, zuP_3, zuC_1, zuC_2, reduceIte, Nat.reduceEqDiff, false_and, and_false, true_and, and_true, and_self, or_true, true_or, or_false, false_or] at e28
        refine zs_icmp_gt (tgt := 36) (pc := 31) C dX9_nextMates_31 (by decide) (fun h31 => ?_) (fun h31 => ?_)
        · skip
          refine zs_aload_n (pc := 36) C dX9_nextMates_36 rfl ?_
          refine zs_getf (pc := 37) C dX9_nextMates_37 w_X9_157 f_10_80 (by decide) ?_
          refine zs_iload_n (pc := 40) C dX9_nextMates_40 rfl ?_
          refine zs_iconst (pc := 41) C dX9_nextMates_41 (by decide) ?_
          refine zs_iast (r := 2103) (pc := 42) C dX9_nextMates_42 a_103 (by decide) (by omega) rfl (r_2103 _) (by omega) ?_
          first | refine zs_iinc (pc := 43) C dX9_nextMates_43 rfl (by decide) (by omega) ?_ | refine zs_iincF (pc := 43) C dX9_nextMates_43 rfl (by decide) (fun z43 hz431 hz432 => ?_)
          dsimp only [zset, zclr, znone]
          refine zs_goto (tgt := 7) (pc := 46) C dX9_nextMates_46 (by decide) ?_
          exact zs_wk (ih7 _ _ (by omega) (by repeat (first | exact zsm_rf | assumption | refine zsm_C (by decide) ?_ | refine zsm_I (by decide) ?_ | refine zsm_J ?_ | refine zsm_c (by assumption) (by decide) ?_)) (fun i hi => by have := h7_2 i (by omega); simp only [zuI_1, true_and]; (repeat (rw [if_neg (by omega)])); exact this) (fun i hi => by have := h7_3 i hi; simp only [zuI_1, true_and]; (repeat split) <;> omega) (by with_reducible repeat (first | exact RO_rf | assumption | refine RO_0 (by decide) ?_ | refine RO_n 20 (by decide) (by omega) ?_ | refine RO_n 5 (by decide) (by omega) ?_ | refine RO_n 60 (by decide) (by omega) ?_ | refine RO_n 1 (by decide) (by omega) ?_ | refine RO_J (by decide) ?_ | refine RO_c (by assumption) ?_)) (by first | omega | (simp only [zuI_1, zuI_2, zuJ_1, zuJ_2, zuJ_3, zuP_1, zuP_2, zuP_3, zuC_1, zuC_2, reduceIte, Nat.reduceEqDiff, false_and, and_false, true_and, and_true, and_self, or_true, true_or, or_false, false_or]; omega))) (zwk_s rfl (zwk_s rfl zwk_0))
        · skip
          refine zs_good (fun hGd9 => ?_)
          refine zs_heap (P := fun G9 => zsm [2103] G1 G9 ∧ RO G1 G9 ∧ (∀ i : Nat, i < 5 → G9.1 2103 (Γ.2.1 w 80) i ≤ 5) ∧ zod 7 (G.1 2103 (Γ.2.1 w 80)) 5 < zod 7 (G9.1 2103 (Γ.2.1 w 80)) 5) ⟨(by repeat (first | exact zsm_rf | assumption | refine zsm_C (by decide) ?_ | refine zsm_I (by decide) ?_ | refine zsm_J ?_ | refine zsm_c (by assumption) (by decide) ?_)), (by with_reducible repeat (first | exact RO_rf | assumption | refine RO_0 (by decide) ?_ | refine RO_n 20 (by decide) (by omega) ?_ | refine RO_n 5 (by decide) (by omega) ?_ | refine RO_n 60 (by decide) (by omega) ?_ | refine RO_n 1 (by decide) (by omega) ?_ | refine RO_J (by decide) ?_ | refine RO_c (by assumption) ?_)), fun i hi => ?_, zod_up5 (k := x1.toNat) (n := 0) (by omega) (mat6 hGd0 _) (fun i => (mat6 hGd9 _ i).1) ?_ (fun i hi => ?_) (fun _ _ => Or.inr trivial)⟩ (fun G9 hG9 => ?_)
          · have := h7_3 i hi
            simp only [zuI_1, true_and]
            repeat split
            all_goals omega
          · simp only [zuI_1, true_and, and_self, if_true]
            omega
          · have := h7_2 i (by omega)
            simp only [zuI_1, true_and]
            repeat (rw [if_neg (by omega)])
            exact this
          obtain ⟨hh1, lwG9, hh2, hh3⟩ := hG9
          refine zs_iconst (pc := 34) C dX9_nextMates_34 (by decide) ?_
          exact zs_zret (pc := 35) C hr hlk dX9_nextMates_35 (by omega) ⟨by repeat (first | exact zsm_rf | assumption | refine zsm_C (by decide) ?_ | refine zsm_I (by decide) ?_ | refine zsm_J ?_ | refine zsm_c (by assumption) (by decide) ?_), (by with_reducible repeat (first | exact RO_rf | assumption | refine RO_0 (by decide) ?_ | refine RO_n 20 (by decide) (by omega) ?_ | refine RO_n 5 (by decide) (by omega) ?_ | refine RO_n 60 (by decide) (by omega) ?_ | refine RO_n 1 (by decide) (by omega) ?_ | refine RO_J (by decide) ?_ | refine RO_c (by assumption) ?_)), by first | exact ⟨by omega, hh2, fun _ => hh3⟩ | exact ⟨by omega, h7_3, fun q => absurd q (by omega)⟩⟩
  exact zs_wk (L7 _ _ _ (by omega) (by repeat (first | exact zsm_rf | assumption | refine zsm_C (by decide) ?_ | refine zsm_I (by decide) ?_ | refine zsm_J ?_ | refine zsm_c (by assumption) (by decide) ?_)) (fun i hi => rfl) hrw (by with_reducible repeat (first | exact RO_rf | assumption | refine RO_0 (by decide) ?_ | refine RO_n 20 (by decide) (by omega) ?_ | refine RO_n 5 (by decide) (by omega) ?_ | refine RO_n 60 (by decide) (by omega) ?_ | refine RO_n 1 (by decide) (by omega) ?_ | refine RO_J (by decide) ?_ | refine RO_c (by assumption) ?_)) (Nat.lt_succ_self _)) (zwk_s rfl (zwk_s rfl zwk_0))

set_option maxHeartbeats 4000000 in
set_option maxRecDepth 100000 in
theorem c_X9_sumOfMatesO {l : Launch} {Γ : zΓ} {G : zH} {w : Nat}  (hX : zXs Γ) (hM : MI Γ w G) : zMet l Γ yX9_sumOfMates cX9_sumOfMates 4 (some .long) 3 [zr 10 w] G (zpj (fun x G' => zsm [1050] G G' ∧ RO G G' ∧ True)) := by
  refine zMet_of RX9 hX (by decide) rfl (Nat.le_of_ble_eq_true rfl) ?_
  intro p e s m args below meth c C hr hlk
  show Z p l e (zrm 3) s m args below meth c Γ 4 0 0 (MQ below (zQc Γ (zpj (fun x G' => zsm [1050] G G' ∧ RO G G' ∧ True))) args s 0 0 (zA Γ)) 0 [some (zr 10 w), none, none, none] [] G
  refine zs_lconst (n := 0) (pc := 0) C dX9_sumOfMates_0 rfl (by decide) ?_
  refine zs_lstore_n (pc := 1) C dX9_sumOfMates_1 (by decide) ?_
  dsimp only [zset, zclr, znone]
  refine zs_iconst (pc := 2) C dX9_sumOfMates_2 (by decide) ?_
  refine zs_istore_n (pc := 3) C dX9_sumOfMates_3 (by decide) ?_
  dsimp only [zset, zclr, znone]
  have L4 : ∀ (nn : Nat) (x1 x3 : Int) (G1 : zH), (0 ≤ x3 ∧ x3 ≤ 5) → (zsm [1050] G G1) → (RO G G1) → (5 - x3).toNat < nn → Z p l e (zrm 3) s m args below meth c Γ 4 0 0 (MQ below (zQc Γ (zpj (fun x G' => zsm [1050] G G' ∧ RO G G' ∧ True))) args s 0 0 (zA Γ)) 4 [some (zr 10 w), some (zj x1), none, some (zi x3)] [] G1 := by
    intro nn
    induction nn with
    | zero => intro x1 x3 G1 h4_0 h4_1 h4_2 hm; exact absurd hm (Nat.not_lt_zero _)
    | succ nn ih4 =>
      intro x1 x3 G1 h4_0 h4_1 h4_2 hm4
      refine zs_iload_n (pc := 4) C dX9_sumOfMates_4 rfl ?_
      refine zs_aload_n (pc := 5) C dX9_sumOfMates_5 rfl ?_
      refine zs_geti (r := 1013) (pc := 6) C dX9_sumOfMates_6 w_X9_261 f_10_13 rfl (r_1013 0) (fun v6 e6 l6 u6 => ?_)
      refine zs_icmp_ge (tgt := 72) (pc := 9) C dX9_sumOfMates_9 (by decide) (fun h9 => ?_) (fun h9 => ?_)
      · skip
        refine zs_lload_n (pc := 72) C dX9_sumOfMates_72 rfl ?_
        exact zs_lret (pc := 73) C hr hlk dX9_sumOfMates_73 ⟨by repeat (first | exact zsm_rf | assumption | refine zsm_C (by decide) ?_ | refine zsm_I (by decide) ?_ | refine zsm_J ?_ | refine zsm_c (by assumption) (by decide) ?_), (by with_reducible repeat (first | exact RO_rf | assumption | refine RO_0 (by decide) ?_ | refine RO_n 20 (by decide) (by omega) ?_ | refine RO_n 5 (by decide) (by omega) ?_ | refine RO_n 60 (by decide) (by omega) ?_ | refine RO_n 1 (by decide) (by omega) ?_ | refine RO_J (by decide) ?_ | refine RO_c (by assumption) ?_)), trivial⟩
      · skip
        refine zs_aload_n (pc := 12) C dX9_sumOfMates_12 rfl ?_
        refine zs_getf (pc := 13) C dX9_sumOfMates_13 w_X9_57 f_10_34 (by decide) ?_
        refine zs_iconst (pc := 16) C dX9_sumOfMates_16 (by decide) ?_
        refine zs_zald (r := 2071) (pc := 17) C dX9_sumOfMates_17 a_71 (by decide) (by omega) rfl (r_2071 _) (fun v17 e17 l17 u17 => ?_)
        refine zs_if_eq (tgt := 72) (pc := 18) C dX9_sumOfMates_18 (by decide) (fun h18 => ?_) (fun h18 => ?_)
        · skip
          refine zs_lload_n (pc := 72) C dX9_sumOfMates_72 rfl ?_
          exact zs_lret (pc := 73) C hr hlk dX9_sumOfMates_73 ⟨by repeat (first | exact zsm_rf | assumption | refine zsm_C (by decide) ?_ | refine zsm_I (by decide) ?_ | refine zsm_J ?_ | refine zsm_c (by assumption) (by decide) ?_), (by with_reducible repeat (first | exact RO_rf | assumption | refine RO_0 (by decide) ?_ | refine RO_n 20 (by decide) (by omega) ?_ | refine RO_n 5 (by decide) (by omega) ?_ | refine RO_n 60 (by decide) (by omega) ?_ | refine RO_n 1 (by decide) (by omega) ?_ | refine RO_J (by decide) ?_ | refine RO_c (by assumption) ?_)), trivial⟩
        · skip
          refine zs_aload_n (pc := 21) C dX9_sumOfMates_21 rfl ?_
          refine zs_getf (pc := 22) C dX9_sumOfMates_22 w_X9_157 f_10_80 (by decide) ?_
          refine zs_iload_n (pc := 25) C dX9_sumOfMates_25 rfl ?_
          refine zs_iald (r := 2103) (pc := 26) C dX9_sumOfMates_26 a_103 (by decide) (by omega) rfl (r_2103 _) (fun v26 e26 l26 u26 => ?_)
          refine zs_aload_n (pc := 27) C dX9_sumOfMates_27 rfl ?_
          refine zs_geti (r := 1013) (pc := 28) C dX9_sumOfMates_28 w_X9_261 f_10_13 rfl (r_1013 0) (fun v28 e28 l28 u28 => ?_)
          refine zs_icmp_ge (tgt := 66) (pc := 31) C dX9_sumOfMates_31 (by decide) (fun h31 => ?_) (fun h31 => ?_)
          · skip
            first | refine zs_iinc (pc := 66) C dX9_sumOfMates_66 rfl (by decide) (by omega) ?_ | refine zs_iincF (pc := 66) C dX9_sumOfMates_66 rfl (by decide) (fun z66 hz661 hz662 => ?_)
            dsimp only [zset, zclr, znone]
            refine zs_goto (tgt := 4) (pc := 69) C dX9_sumOfMates_69 (by decide) ?_
            exact zs_wk (ih4 _ _ _ (by first | omega | (simp only [zuI_1, zuI_2, zuJ_1, zuJ_2, zuJ_3, zuP_1, zuP_2, zuP_3, zuC_1, zuC_2, reduceIte, Nat.reduceEqDiff, false_and, and_false, true_and, and_true, and_self, or_true, true_or, or_false, false_or]; omega)) (by repeat (first | exact zsm_rf | assumption | refine zsm_C (by decide) ?_ | refine zsm_I (by decide) ?_ | refine zsm_J ?_ | refine zsm_c (by assumption) (by decide) ?_)) (by with_reducible repeat (first | exact RO_rf | assumption | refine RO_0 (by decide) ?_ | refine RO_n 20 (by decide) (by omega) ?_ | refine RO_n 5 (by decide) (by omega) ?_ | refine RO_n 60 (by decide) (by omega) ?_ | refine RO_n 1 (by decide) (by omega) ?_ | refine RO_J (by decide) ?_ | refine RO_c (by assumption) ?_)) (by first | omega | (simp only [zuI_1, zuI_2, zuJ_1, zuJ_2, zuJ_3, zuP_1, zuP_2, zuP_3, zuC_1, zuC_2, reduceIte, Nat.reduceEqDiff, false_and, and_false, true_and, and_true, and_self, or_true, true_or, or_false, false_or]; omega))) (zwk_s rfl (zwk_s rfl (zwk_n (zwk_s rfl zwk_0))))
          · skip
            refine zs_aload_n (pc := 34) C dX9_sumOfMates_34 rfl ?_
            refine zs_getf (pc := 35) C dX9_sumOfMates_35 w_X9_157 f_10_80 (by decide) ?_
            refine zs_iload_n (pc := 38) C dX9_sumOfMates_38 rfl ?_
            refine zs_iald (r := 2103) (pc := 39) C dX9_sumOfMates_39 a_103 (by decide) (by omega) rfl (r_2103 _) (fun v39 e39 l39 u39 => ?_)
            refine zs_iload_n (pc := 40) C dX9_sumOfMates_40 rfl ?_
            refine zs_icmp_ge (tgt := 47) (pc := 41) C dX9_sumOfMates_41 (by decide) (fun h41 => ?_) (fun h41 => ?_)
            · skip
              refine zs_aload_n (pc := 47) C dX9_sumOfMates_47 rfl ?_
              refine zs_iload_n (pc := 48) C dX9_sumOfMates_48 rfl ?_
              refine zs_aload_n (pc := 49) C dX9_sumOfMates_49 rfl ?_
              refine zs_getf (pc := 50) C dX9_sumOfMates_50 w_X9_157 f_10_80 (by decide) ?_
              refine zs_iload_n (pc := 53) C dX9_sumOfMates_53 rfl ?_
              refine zs_iald (r := 2103) (pc := 54) C dX9_sumOfMates_54 a_103 (by decide) (by omega) rfl (r_2103 _) (fun v54 e54 l54 u54 => ?_)
              refine zVv2 (pc := 55) C dX9_sumOfMates_55 v_X9_435 (c_X9_layPairO hX (by omega) (by omega)) (by decide) (by decide) ⟨Nat.zero_le _, Nat.zero_le _⟩ (Nat.le_of_ble_eq_true rfl) (fun G55 hp55 => ?_)
              obtain ⟨hz55, lo55, hq55⟩ := hp55
              have t2071 := zsm_at hz55 2071 (Γ.2.1 w 34) (3 : Int).toNat (by decide)
              refine zs_lload_n (pc := 58) C dX9_sumOfMates_58 rfl ?_
              refine zs_aload_n (pc := 59) C dX9_sumOfMates_59 rfl ?_
              refine zs_iconst (pc := 60) C dX9_sumOfMates_60 (by decide) ?_
              refine zVj1 (pc := 61) C dX9_sumOfMates_61 v_X9_418 (c_X9_lawOfO hX (by repeat (first | assumption | refine MI_I (by decide) ?_ | refine MI_J ?_ | refine MI_sm (by assumption) (by decide) ?_ | refine MI_sn (by assumption) (by decide) ?_)) (by omega) (by omega)) (by decide) (by decide) ⟨Nat.zero_le _, Nat.zero_le _⟩ (Nat.le_of_ble_eq_true rfl) (fun x61 G61 l61 u61 hp61 => ?_)
              obtain ⟨hz61, lo61, hq61⟩ := hp61
              refine zs_laddF (pc := 64) C dX9_sumOfMates_64 (fun z64 hz641 hz642 => ?_)
              refine zs_lstore_n (pc := 65) C dX9_sumOfMates_65 (by decide) ?_
              dsimp only [zset, zclr, znone]
              first | refine zs_iinc (pc := 66) C dX9_sumOfMates_66 rfl (by decide) (by omega) ?_ | refine zs_iincF (pc := 66) C dX9_sumOfMates_66 rfl (by decide) (fun z66 hz661 hz662 => ?_)
              dsimp only [zset, zclr, znone]
              refine zs_goto (tgt := 4) (pc := 69) C dX9_sumOfMates_69 (by decide) ?_
              exact zs_wk (ih4 _ _ _ (by first | omega | (simp only [zuI_1, zuI_2, zuJ_1, zuJ_2, zuJ_3, zuP_1, zuP_2, zuP_3, zuC_1, zuC_2, reduceIte, Nat.reduceEqDiff, false_and, and_false, true_and, and_true, and_self, or_true, true_or, or_false, false_or]; omega)) (by repeat (first | exact zsm_rf | assumption | refine zsm_C (by decide) ?_ | refine zsm_I (by decide) ?_ | refine zsm_J ?_ | refine zsm_c (by assumption) (by decide) ?_)) (by with_reducible repeat (first | exact RO_rf | assumption | refine RO_0 (by decide) ?_ | refine RO_n 20 (by decide) (by omega) ?_ | refine RO_n 5 (by decide) (by omega) ?_ | refine RO_n 60 (by decide) (by omega) ?_ | refine RO_n 1 (by decide) (by omega) ?_ | refine RO_J (by decide) ?_ | refine RO_c (by assumption) ?_)) (by first | omega | (simp only [zuI_1, zuI_2, zuJ_1, zuJ_2, zuJ_3, zuP_1, zuP_2, zuP_3, zuC_1, zuC_2, reduceIte, Nat.reduceEqDiff, false_and, and_false, true_and, and_true, and_self, or_true, true_or, or_false, false_or]; omega))) (zwk_s rfl (zwk_s rfl (zwk_n (zwk_s rfl zwk_0))))
            · skip
              refine zs_goto (tgt := 66) (pc := 44) C dX9_sumOfMates_44 (by decide) ?_
              first | refine zs_iinc (pc := 66) C dX9_sumOfMates_66 rfl (by decide) (by omega) ?_ | refine zs_iincF (pc := 66) C dX9_sumOfMates_66 rfl (by decide) (fun z66 hz661 hz662 => ?_)
              dsimp only [zset, zclr, znone]
              refine zs_goto (tgt := 4) (pc := 69) C dX9_sumOfMates_69 (by decide) ?_
              exact zs_wk (ih4 _ _ _ (by first | omega | (simp only [zuI_1, zuI_2, zuJ_1, zuJ_2, zuJ_3, zuP_1, zuP_2, zuP_3, zuC_1, zuC_2, reduceIte, Nat.reduceEqDiff, false_and, and_false, true_and, and_true, and_self, or_true, true_or, or_false, false_or]; omega)) (by repeat (first | exact zsm_rf | assumption | refine zsm_C (by decide) ?_ | refine zsm_I (by decide) ?_ | refine zsm_J ?_ | refine zsm_c (by assumption) (by decide) ?_)) (by with_reducible repeat (first | exact RO_rf | assumption | refine RO_0 (by decide) ?_ | refine RO_n 20 (by decide) (by omega) ?_ | refine RO_n 5 (by decide) (by omega) ?_ | refine RO_n 60 (by decide) (by omega) ?_ | refine RO_n 1 (by decide) (by omega) ?_ | refine RO_J (by decide) ?_ | refine RO_c (by assumption) ?_)) (by first | omega | (simp only [zuI_1, zuI_2, zuJ_1, zuJ_2, zuJ_3, zuP_1, zuP_2, zuP_3, zuC_1, zuC_2, reduceIte, Nat.reduceEqDiff, false_and, and_false, true_and, and_true, and_self, or_true, true_or, or_false, false_or]; omega))) (zwk_s rfl (zwk_s rfl (zwk_n (zwk_s rfl zwk_0))))
  exact zs_wk (L4 _ _ _ _ (by first | omega | (simp only [zuI_1, zuI_2, zuJ_1, zuJ_2, zuJ_3, zuP_1, zuP_2, zuP_3, zuC_1, zuC_2, reduceIte, Nat.reduceEqDiff, false_and, and_false, true_and, and_true, and_self, or_true, true_or, or_false, false_or]; omega)) (by repeat (first | exact zsm_rf | assumption | refine zsm_C (by decide) ?_ | refine zsm_I (by decide) ?_ | refine zsm_J ?_ | refine zsm_c (by assumption) (by decide) ?_)) (by with_reducible repeat (first | exact RO_rf | assumption | refine RO_0 (by decide) ?_ | refine RO_n 20 (by decide) (by omega) ?_ | refine RO_n 5 (by decide) (by omega) ?_ | refine RO_n 60 (by decide) (by omega) ?_ | refine RO_n 1 (by decide) (by omega) ?_ | refine RO_J (by decide) ?_ | refine RO_c (by assumption) ?_)) (Nat.lt_succ_self _)) (zwk_s rfl (zwk_s rfl (zwk_n (zwk_s rfl zwk_0))))

set_option maxHeartbeats 4000000 in
set_option maxRecDepth 100000 in
theorem c_X9_layPairsO {l : Launch} {Γ : zΓ} {G : zH} {w : Nat}  (hX : zXs Γ) (hM : MI Γ w G) : zMet l Γ yX9_layPairs cX9_layPairs 6 none 4 [zr 10 w] G (zpv (fun G' => zsm [1050, 2103, 2104] G G' ∧ RO G G' ∧ True)) := by
  refine zMet_of RX9 hX (by decide) rfl (Nat.le_of_ble_eq_true rfl) ?_
  intro p e s m args below meth c C hr hlk
  show Z p l e (zrm 4) s m args below meth c Γ 6 0 0 (MQ below (zQc Γ (zpv (fun G' => zsm [1050, 2103, 2104] G G' ∧ RO G G' ∧ True))) args s 0 0 (zA Γ)) 0 [some (zr 10 w), none, none, none, none, none] [] G
  refine zs_iconst (pc := 0) C dX9_layPairs_0 (by decide) ?_
  refine zs_istore_n (pc := 1) C dX9_layPairs_1 (by decide) ?_
  dsimp only [zset, zclr, znone]
  have L2 : ∀ (nn : Nat) (x1 : Int) (G2 : zH), (0 ≤ x1 ∧ x1 ≤ 5) → (zsm [1050, 2103, 2104] G G2) → (∀ i : Nat, (i : Int) < x1 → G2.1 2103 (Γ.2.1 w 80) i ≤ 5) → (RO G G2) → (5 - x1).toNat < nn → Z p l e (zrm 4) s m args below meth c Γ 6 0 0 (MQ below (zQc Γ (zpv (fun G' => zsm [1050, 2103, 2104] G G' ∧ RO G G' ∧ True))) args s 0 0 (zA Γ)) 2 [some (zr 10 w), some (zi x1), none, none, none, none] [] G2 := by
    intro nn
    induction nn with
    | zero => intro x1 G2 h2_0 h2_1 h2_2 h2_3 hm; exact absurd hm (Nat.not_lt_zero _)
    | succ nn ih2 =>
      intro x1 G2 h2_0 h2_1 h2_2 h2_3 hm2
      refine zs_iload_n (pc := 2) C dX9_layPairs_2 rfl ?_
      refine zs_iconst (pc := 3) C dX9_layPairs_3 (by decide) ?_
      refine zs_icmp_ge (tgt := 20) (pc := 4) C dX9_layPairs_4 (by decide) (fun h4 => ?_) (fun h4 => ?_)
      · skip
        refine zs_iconst (pc := 20) C dX9_layPairs_20 (by decide) ?_
        refine zs_istore_n (pc := 21) C dX9_layPairs_21 (by decide) ?_
        dsimp only [zset, zclr, znone]
        refine zs_iconst (pc := 22) C dX9_layPairs_22 (by decide) ?_
        refine zs_istore_n (pc := 23) C dX9_layPairs_23 (by decide) ?_
        dsimp only [zset, zclr, znone]
        have L24 : ∀ (nn : Nat) (x1 x2 : Int) (G3 : zH), (∀ i : Nat, i < 5 → G3.1 2103 (Γ.2.1 w 80) i ≤ 5) → (zsm [1050, 2103, 2104] G G3) → (RO G G3) → lpm x2 (zod 7 (G3.1 2103 (Γ.2.1 w 80)) 5) < nn → Z p l e (zrm 4) s m args below meth c Γ 6 0 0 (MQ below (zQc Γ (zpv (fun G' => zsm [1050, 2103, 2104] G G' ∧ RO G G' ∧ True))) args s 0 0 (zA Γ)) 24 [some (zr 10 w), some (zi x1), some (zi x2), none, none, none] [] G3 := by
          intro nn
          induction nn with
          | zero => intro x1 x2 G3 h24_0 h24_1 h24_2 hm; exact absurd hm (Nat.not_lt_zero _)
          | succ nn ih24 =>
            intro x1 x2 G3 h24_0 h24_1 h24_2 hm24
            refine zs_iload_n (pc := 24) C dX9_layPairs_24 rfl ?_
            refine zs_if_eq (tgt := 97) (pc := 25) C dX9_layPairs_25 (by decide) (fun h25 => ?_) (fun h25 => ?_)
            · skip
              exact zs_vret (pc := 97) C hr hlk dX9_layPairs_97 ⟨by repeat (first | exact zsm_rf | assumption | refine zsm_C (by decide) ?_ | refine zsm_I (by decide) ?_ | refine zsm_J ?_ | refine zsm_c (by assumption) (by decide) ?_), (by with_reducible repeat (first | exact RO_rf | assumption | refine RO_0 (by decide) ?_ | refine RO_n 20 (by decide) (by omega) ?_ | refine RO_n 5 (by decide) (by omega) ?_ | refine RO_n 60 (by decide) (by omega) ?_ | refine RO_n 1 (by decide) (by omega) ?_ | refine RO_J (by decide) ?_ | refine RO_c (by assumption) ?_)), trivial⟩
            · skip
              refine zs_aload_n (pc := 28) C dX9_layPairs_28 rfl ?_
              refine zVip0 (pc := 29) C dX9_layPairs_29 v_X9_525 (c_X9_areMates hX ) (by decide) (by decide) ⟨Nat.zero_le _, Nat.zero_le _⟩ (Nat.le_of_ble_eq_true rfl) (fun x29 l29 u29 hp29 => ?_)
              have hq29 := hp29
              have J89 : ∀ (x1 : Int) (G5 : zH), (zsm [1050, 2103, 2104] G G5) → (G5.1 2103 = G3.1 2103) → (RO G G5) → Z p l e (zrm 4) s m args below meth c Γ 6 0 0 (MQ below (zQc Γ (zpv (fun G' => zsm [1050, 2103, 2104] G G' ∧ RO G G' ∧ True))) args s 0 0 (zA Γ)) 89 [some (zr 10 w), some (zi x1), none, none, none, none] [] G5 := by
                intro x1 G5 h89_0 h89_1 h89_2
                have hr5 : ∀ i : Nat, i < 5 → G5.1 2103 (Γ.2.1 w 80) i ≤ 5 := fun i hi => by rw [h89_1]; exact h24_0 i hi
                refine zs_good (fun hGd5 => ?_)
                have hzb := zod5_b (mat6 hGd5 (Γ.2.1 w 80))
                rw [h89_1] at hzb
                refine zs_aload_n (pc := 89) C dX9_layPairs_89 rfl ?_
                refine zVi0 (pc := 90) C dX9_layPairs_90 v_X9_535 (c_X9_nextMatesO hX (by omega)) (by decide) (by decide) ⟨Nat.zero_le _, Nat.zero_le _⟩ (Nat.le_of_ble_eq_true rfl) (fun x90 G90 l90 u90 hp90 => ?_)
                obtain ⟨hz90, lo90, hq90⟩ := hp90
                have hq5 := hq90.2.2
                rw [h89_1] at hq5
                refine zs_good (fun hGd6 => ?_)
                have hzb6 := zod5_b (mat6 hGd6 (Γ.2.1 w 80))
                refine zs_istore_n (pc := 93) C dX9_layPairs_93 (by decide) ?_
                dsimp only [zset, zclr, znone]
                refine zs_goto (tgt := 24) (pc := 94) C dX9_layPairs_94 (by decide) ?_
                exact zs_wk (ih24 _ _ _ hq90.2.1 (by repeat (first | exact zsm_rf | assumption | refine zsm_C (by decide) ?_ | refine zsm_I (by decide) ?_ | refine zsm_J ?_ | refine zsm_c (by assumption) (by decide) ?_)) (by with_reducible repeat (first | exact RO_rf | assumption | refine RO_0 (by decide) ?_ | refine RO_n 20 (by decide) (by omega) ?_ | refine RO_n 5 (by decide) (by omega) ?_ | refine RO_n 60 (by decide) (by omega) ?_ | refine RO_n 1 (by decide) (by omega) ?_ | refine RO_J (by decide) ?_ | refine RO_c (by assumption) ?_)) (lpm_s hm24 h25 hq90.1 hq5 hzb hzb6)) (zwk_s rfl (zwk_s rfl (zwk_s rfl (zwk_n (zwk_n (zwk_n zwk_0))))))
              refine zs_if_eq (tgt := 89) (pc := 32) C dX9_layPairs_32 (by decide) (fun h32 => ?_) (fun h32 => ?_)
              · skip
                exact zs_wk (J89 _ _ (by repeat (first | exact zsm_rf | assumption | refine zsm_C (by decide) ?_ | refine zsm_I (by decide) ?_ | refine zsm_J ?_ | refine zsm_c (by assumption) (by decide) ?_)) (by first | rfl | exact hz36.1 2103 (by decide) | exact (h63_2.1 2103 (by decide)).trans (hz36.1 2103 (by decide))) (by with_reducible repeat (first | exact RO_rf | assumption | refine RO_0 (by decide) ?_ | refine RO_n 20 (by decide) (by omega) ?_ | refine RO_n 5 (by decide) (by omega) ?_ | refine RO_n 60 (by decide) (by omega) ?_ | refine RO_n 1 (by decide) (by omega) ?_ | refine RO_J (by decide) ?_ | refine RO_c (by assumption) ?_))) (zwk_s rfl (zwk_s rfl (zwk_n (zwk_n (zwk_n (zwk_n zwk_0))))))
              · skip
                refine zs_aload_n (pc := 35) C dX9_layPairs_35 rfl ?_
                refine zVj0 (pc := 36) C dX9_layPairs_36 v_X9_528 (c_X9_sumOfMatesO hX (by repeat (first | assumption | refine MI_I (by decide) ?_ | refine MI_J ?_ | refine MI_sm (by assumption) (by decide) ?_ | refine MI_sn (by assumption) (by decide) ?_))) (by decide) (by decide) ⟨Nat.zero_le _, Nat.zero_le _⟩ (Nat.le_of_ble_eq_true rfl) (fun x36 G36 l36 u36 hp36 => ?_)
                obtain ⟨hz36, lo36, hq36⟩ := hp36
                refine zs_lstore_n (pc := 39) C dX9_layPairs_39 (by decide) ?_
                dsimp only [zset, zclr, znone]
                refine zs_iload_n (pc := 40) C dX9_layPairs_40 rfl ?_
                refine zs_if_eq (tgt := 53) (pc := 41) C dX9_layPairs_41 (by decide) (fun h41 => ?_) (fun h41 => ?_)
                · skip
                  refine zs_iconst (pc := 53) C dX9_layPairs_53 (by decide) ?_
                  refine zs_istore_n (pc := 54) C dX9_layPairs_54 (by decide) ?_
                  dsimp only [zset, zclr, znone]
                  refine zs_aload_n (pc := 55) C dX9_layPairs_55 rfl ?_
                  refine zs_lload_n (pc := 56) C dX9_layPairs_56 rfl ?_
                  refine zs_putj (r := 1082) (pc := 57) C dX9_layPairs_57 w_X9_532 f_10_82 rfl ?_
                  refine zs_iconst (pc := 60) C dX9_layPairs_60 (by decide) ?_
                  refine zs_istore (pc := 61) C dX9_layPairs_61 (by decide) ?_
                  dsimp only [zset, zclr, znone]
                  have L63 : ∀ (nn : Nat) (x5 : Int) (G6 : zH), (0 ≤ x5 ∧ x5 ≤ 5) → (zsm [1050, 2103, 2104] G G6) → (zsm [2104] G36 G6) → (RO G G6) → (5 - x5).toNat < nn → Z p l e (zrm 4) s m args below meth c Γ 6 0 0 (MQ below (zQc Γ (zpv (fun G' => zsm [1050, 2103, 2104] G G' ∧ RO G G' ∧ True))) args s 0 0 (zA Γ)) 63 [some (zr 10 w), some (zi 1), none, none, none, some (zi x5)] [] G6 := by
                    intro nn
                    induction nn with
                    | zero => intro x5 G6 h63_0 h63_1 h63_2 h63_3 hm; exact absurd hm (Nat.not_lt_zero _)
                    | succ nn ih63 =>
                      intro x5 G6 h63_0 h63_1 h63_2 h63_3 hm63
                      refine zs_iload (pc := 63) C dX9_layPairs_63 rfl ?_
                      refine zs_iconst (pc := 65) C dX9_layPairs_65 (by decide) ?_
                      refine zs_icmp_ge (tgt := 89) (pc := 66) C dX9_layPairs_66 (by decide) (fun h66 => ?_) (fun h66 => ?_)
                      · skip
                        exact zs_wk (J89 _ _ (by repeat (first | exact zsm_rf | assumption | refine zsm_C (by decide) ?_ | refine zsm_I (by decide) ?_ | refine zsm_J ?_ | refine zsm_c (by assumption) (by decide) ?_)) (by first | rfl | exact hz36.1 2103 (by decide) | exact (h63_2.1 2103 (by decide)).trans (hz36.1 2103 (by decide))) (by with_reducible repeat (first | exact RO_rf | assumption | refine RO_0 (by decide) ?_ | refine RO_n 20 (by decide) (by omega) ?_ | refine RO_n 5 (by decide) (by omega) ?_ | refine RO_n 60 (by decide) (by omega) ?_ | refine RO_n 1 (by decide) (by omega) ?_ | refine RO_J (by decide) ?_ | refine RO_c (by assumption) ?_))) (zwk_s rfl (zwk_s rfl (zwk_n (zwk_n (zwk_n (zwk_n zwk_0))))))
                      · skip
                        refine zs_aload_n (pc := 69) C dX9_layPairs_69 rfl ?_
                        refine zs_getf (pc := 70) C dX9_layPairs_70 w_X9_160 f_10_81 (by decide) ?_
                        refine zs_iload (pc := 73) C dX9_layPairs_73 rfl ?_
                        refine zs_aload_n (pc := 75) C dX9_layPairs_75 rfl ?_
                        refine zs_getf (pc := 76) C dX9_layPairs_76 w_X9_157 f_10_80 (by decide) ?_
                        refine zs_iload (pc := 79) C dX9_layPairs_79 rfl ?_
                        refine zs_iald (r := 2103) (pc := 81) C dX9_layPairs_81 a_103 (by decide) (by omega) rfl (r_2103 _) (fun v81 e81 l81 u81 => ?_)
                        refine zs_iast (r := 2104) (pc := 82) C dX9_layPairs_82 a_104 (by decide) (by omega) rfl (r_2104 _) (by omega) ?_
                        first | refine zs_iinc (pc := 83) C dX9_layPairs_83 rfl (by decide) (by omega) ?_ | refine zs_iincF (pc := 83) C dX9_layPairs_83 rfl (by decide) (fun z83 hz831 hz832 => ?_)
                        dsimp only [zset, zclr, znone]
                        refine zs_goto (tgt := 63) (pc := 86) C dX9_layPairs_86 (by decide) ?_
                        exact zs_wk (ih63 _ _ (by first | omega | (simp only [zuI_1, zuI_2, zuJ_1, zuJ_2, zuJ_3, zuP_1, zuP_2, zuP_3, zuC_1, zuC_2, reduceIte, Nat.reduceEqDiff, false_and, and_false, true_and, and_true, and_self, or_true, true_or, or_false, false_or]; omega)) (by repeat (first | exact zsm_rf | assumption | refine zsm_C (by decide) ?_ | refine zsm_I (by decide) ?_ | refine zsm_J ?_ | refine zsm_c (by assumption) (by decide) ?_)) (by repeat (first | exact zsm_rf | assumption | refine zsm_C (by decide) ?_ | refine zsm_I (by decide) ?_ | refine zsm_J ?_ | refine zsm_c (by assumption) (by decide) ?_)) (by with_reducible repeat (first | exact RO_rf | assumption | refine RO_0 (by decide) ?_ | refine RO_n 20 (by decide) (by omega) ?_ | refine RO_n 5 (by decide) (by omega) ?_ | refine RO_n 60 (by decide) (by omega) ?_ | refine RO_n 1 (by decide) (by omega) ?_ | refine RO_J (by decide) ?_ | refine RO_c (by assumption) ?_)) (by first | omega | (simp only [zuI_1, zuI_2, zuJ_1, zuJ_2, zuJ_3, zuP_1, zuP_2, zuP_3, zuC_1, zuC_2, reduceIte, Nat.reduceEqDiff, false_and, and_false, true_and, and_true, and_self, or_true, true_or, or_false, false_or]; omega))) (zwk_s rfl (zwk_s rfl (zwk_n (zwk_n (zwk_n (zwk_s rfl zwk_0))))))
                  exact zs_wk (L63 _ _ _ (by first | omega | (simp only [zuI_1, zuI_2, zuJ_1, zuJ_2, zuJ_3, zuP_1, zuP_2, zuP_3, zuC_1, zuC_2, reduceIte, Nat.reduceEqDiff, false_and, and_false, true_and, and_true, and_self, or_true, true_or, or_false, false_or]; omega)) (by repeat (first | exact zsm_rf | assumption | refine zsm_C (by decide) ?_ | refine zsm_I (by decide) ?_ | refine zsm_J ?_ | refine zsm_c (by assumption) (by decide) ?_)) (by repeat (first | exact zsm_rf | assumption | refine zsm_C (by decide) ?_ | refine zsm_I (by decide) ?_ | refine zsm_J ?_ | refine zsm_c (by assumption) (by decide) ?_)) (by with_reducible repeat (first | exact RO_rf | assumption | refine RO_0 (by decide) ?_ | refine RO_n 20 (by decide) (by omega) ?_ | refine RO_n 5 (by decide) (by omega) ?_ | refine RO_n 60 (by decide) (by omega) ?_ | refine RO_n 1 (by decide) (by omega) ?_ | refine RO_J (by decide) ?_ | refine RO_c (by assumption) ?_)) (Nat.lt_succ_self _)) (zwk_s rfl (zwk_s rfl (zwk_n (zwk_n (zwk_n (zwk_s rfl zwk_0))))))
                · skip
                  refine zs_lload_n (pc := 44) C dX9_layPairs_44 rfl ?_
                  refine zs_aload_n (pc := 45) C dX9_layPairs_45 rfl ?_
                  refine zs_getj (r := 1082) (pc := 46) C dX9_layPairs_46 w_X9_532 f_10_82 rfl (fun v46 e46 l46 u46 => ?_)
                  refine zs_lcmp (pc := 49) C dX9_layPairs_49 (fun z49 hz49 => ?_)
                  refine zs_if_le (tgt := 89) (pc := 50) C dX9_layPairs_50 (by decide) (fun h50 => ?_) (fun h50 => ?_)
                  · skip
                    exact zs_wk (J89 _ _ (by repeat (first | exact zsm_rf | assumption | refine zsm_C (by decide) ?_ | refine zsm_I (by decide) ?_ | refine zsm_J ?_ | refine zsm_c (by assumption) (by decide) ?_)) (by first | rfl | exact hz36.1 2103 (by decide) | exact (h63_2.1 2103 (by decide)).trans (hz36.1 2103 (by decide))) (by with_reducible repeat (first | exact RO_rf | assumption | refine RO_0 (by decide) ?_ | refine RO_n 20 (by decide) (by omega) ?_ | refine RO_n 5 (by decide) (by omega) ?_ | refine RO_n 60 (by decide) (by omega) ?_ | refine RO_n 1 (by decide) (by omega) ?_ | refine RO_J (by decide) ?_ | refine RO_c (by assumption) ?_))) (zwk_s rfl (zwk_s rfl (zwk_n (zwk_n (zwk_n (zwk_n zwk_0))))))
                  · skip
                    refine zs_iconst (pc := 53) C dX9_layPairs_53 (by decide) ?_
                    refine zs_istore_n (pc := 54) C dX9_layPairs_54 (by decide) ?_
                    dsimp only [zset, zclr, znone]
                    refine zs_aload_n (pc := 55) C dX9_layPairs_55 rfl ?_
                    refine zs_lload_n (pc := 56) C dX9_layPairs_56 rfl ?_
                    refine zs_putj (r := 1082) (pc := 57) C dX9_layPairs_57 w_X9_532 f_10_82 rfl ?_
                    refine zs_iconst (pc := 60) C dX9_layPairs_60 (by decide) ?_
                    refine zs_istore (pc := 61) C dX9_layPairs_61 (by decide) ?_
                    dsimp only [zset, zclr, znone]
                    have L63 : ∀ (nn : Nat) (x5 : Int) (G6 : zH), (0 ≤ x5 ∧ x5 ≤ 5) → (zsm [1050, 2103, 2104] G G6) → (zsm [2104] G36 G6) → (RO G G6) → (5 - x5).toNat < nn → Z p l e (zrm 4) s m args below meth c Γ 6 0 0 (MQ below (zQc Γ (zpv (fun G' => zsm [1050, 2103, 2104] G G' ∧ RO G G' ∧ True))) args s 0 0 (zA Γ)) 63 [some (zr 10 w), some (zi 1), none, none, none, some (zi x5)] [] G6 := by
                      intro nn
                      induction nn with
                      | zero => intro x5 G6 h63_0 h63_1 h63_2 h63_3 hm; exact absurd hm (Nat.not_lt_zero _)
                      | succ nn ih63 =>
                        intro x5 G6 h63_0 h63_1 h63_2 h63_3 hm63
                        refine zs_iload (pc := 63) C dX9_layPairs_63 rfl ?_
                        refine zs_iconst (pc := 65) C dX9_layPairs_65 (by decide) ?_
                        refine zs_icmp_ge (tgt := 89) (pc := 66) C dX9_layPairs_66 (by decide) (fun h66 => ?_) (fun h66 => ?_)
                        · skip
                          exact zs_wk (J89 _ _ (by repeat (first | exact zsm_rf | assumption | refine zsm_C (by decide) ?_ | refine zsm_I (by decide) ?_ | refine zsm_J ?_ | refine zsm_c (by assumption) (by decide) ?_)) (by first | rfl | exact hz36.1 2103 (by decide) | exact (h63_2.1 2103 (by decide)).trans (hz36.1 2103 (by decide))) (by with_reducible repeat (first | exact RO_rf | assumption | refine RO_0 (by decide) ?_ | refine RO_n 20 (by decide) (by omega) ?_ | refine RO_n 5 (by decide) (by omega) ?_ | refine RO_n 60 (by decide) (by omega) ?_ | refine RO_n 1 (by decide) (by omega) ?_ | refine RO_J (by decide) ?_ | refine RO_c (by assumption) ?_))) (zwk_s rfl (zwk_s rfl (zwk_n (zwk_n (zwk_n (zwk_n zwk_0))))))
                        · skip
                          refine zs_aload_n (pc := 69) C dX9_layPairs_69 rfl ?_
                          refine zs_getf (pc := 70) C dX9_layPairs_70 w_X9_160 f_10_81 (by decide) ?_
                          refine zs_iload (pc := 73) C dX9_layPairs_73 rfl ?_
                          refine zs_aload_n (pc := 75) C dX9_layPairs_75 rfl ?_
                          refine zs_getf (pc := 76) C dX9_layPairs_76 w_X9_157 f_10_80 (by decide) ?_
                          refine zs_iload (pc := 79) C dX9_layPairs_79 rfl ?_
                          refine zs_iald (r := 2103) (pc := 81) C dX9_layPairs_81 a_103 (by decide) (by omega) rfl (r_2103 _) (fun v81 e81 l81 u81 => ?_)
                          refine zs_iast (r := 2104) (pc := 82) C dX9_layPairs_82 a_104 (by decide) (by omega) rfl (r_2104 _) (by omega) ?_
                          first | refine zs_iinc (pc := 83) C dX9_layPairs_83 rfl (by decide) (by omega) ?_ | refine zs_iincF (pc := 83) C dX9_layPairs_83 rfl (by decide) (fun z83 hz831 hz832 => ?_)
                          dsimp only [zset, zclr, znone]
                          refine zs_goto (tgt := 63) (pc := 86) C dX9_layPairs_86 (by decide) ?_
                          exact zs_wk (ih63 _ _ (by first | omega | (simp only [zuI_1, zuI_2, zuJ_1, zuJ_2, zuJ_3, zuP_1, zuP_2, zuP_3, zuC_1, zuC_2, reduceIte, Nat.reduceEqDiff, false_and, and_false, true_and, and_true, and_self, or_true, true_or, or_false, false_or]; omega)) (by repeat (first | exact zsm_rf | assumption | refine zsm_C (by decide) ?_ | refine zsm_I (by decide) ?_ | refine zsm_J ?_ | refine zsm_c (by assumption) (by decide) ?_)) (by repeat (first | exact zsm_rf | assumption | refine zsm_C (by decide) ?_ | refine zsm_I (by decide) ?_ | refine zsm_J ?_ | refine zsm_c (by assumption) (by decide) ?_)) (by with_reducible repeat (first | exact RO_rf | assumption | refine RO_0 (by decide) ?_ | refine RO_n 20 (by decide) (by omega) ?_ | refine RO_n 5 (by decide) (by omega) ?_ | refine RO_n 60 (by decide) (by omega) ?_ | refine RO_n 1 (by decide) (by omega) ?_ | refine RO_J (by decide) ?_ | refine RO_c (by assumption) ?_)) (by first | omega | (simp only [zuI_1, zuI_2, zuJ_1, zuJ_2, zuJ_3, zuP_1, zuP_2, zuP_3, zuC_1, zuC_2, reduceIte, Nat.reduceEqDiff, false_and, and_false, true_and, and_true, and_self, or_true, true_or, or_false, false_or]; omega))) (zwk_s rfl (zwk_s rfl (zwk_n (zwk_n (zwk_n (zwk_s rfl zwk_0))))))
                    exact zs_wk (L63 _ _ _ (by first | omega | (simp only [zuI_1, zuI_2, zuJ_1, zuJ_2, zuJ_3, zuP_1, zuP_2, zuP_3, zuC_1, zuC_2, reduceIte, Nat.reduceEqDiff, false_and, and_false, true_and, and_true, and_self, or_true, true_or, or_false, false_or]; omega)) (by repeat (first | exact zsm_rf | assumption | refine zsm_C (by decide) ?_ | refine zsm_I (by decide) ?_ | refine zsm_J ?_ | refine zsm_c (by assumption) (by decide) ?_)) (by repeat (first | exact zsm_rf | assumption | refine zsm_C (by decide) ?_ | refine zsm_I (by decide) ?_ | refine zsm_J ?_ | refine zsm_c (by assumption) (by decide) ?_)) (by with_reducible repeat (first | exact RO_rf | assumption | refine RO_0 (by decide) ?_ | refine RO_n 20 (by decide) (by omega) ?_ | refine RO_n 5 (by decide) (by omega) ?_ | refine RO_n 60 (by decide) (by omega) ?_ | refine RO_n 1 (by decide) (by omega) ?_ | refine RO_J (by decide) ?_ | refine RO_c (by assumption) ?_)) (Nat.lt_succ_self _)) (zwk_s rfl (zwk_s rfl (zwk_n (zwk_n (zwk_n (zwk_s rfl zwk_0))))))
        exact zs_wk (L24 _ _ _ _ (fun i hi => h2_2 i (by omega)) (by repeat (first | exact zsm_rf | assumption | refine zsm_C (by decide) ?_ | refine zsm_I (by decide) ?_ | refine zsm_J ?_ | refine zsm_c (by assumption) (by decide) ?_)) (by with_reducible repeat (first | exact RO_rf | assumption | refine RO_0 (by decide) ?_ | refine RO_n 20 (by decide) (by omega) ?_ | refine RO_n 5 (by decide) (by omega) ?_ | refine RO_n 60 (by decide) (by omega) ?_ | refine RO_n 1 (by decide) (by omega) ?_ | refine RO_J (by decide) ?_ | refine RO_c (by assumption) ?_)) (Nat.lt_succ_self _)) (zwk_s rfl (zwk_s rfl (zwk_s rfl (zwk_n (zwk_n (zwk_n zwk_0))))))
      · skip
        refine zs_aload_n (pc := 7) C dX9_layPairs_7 rfl ?_
        refine zs_getf (pc := 8) C dX9_layPairs_8 w_X9_157 f_10_80 (by decide) ?_
        refine zs_iload_n (pc := 11) C dX9_layPairs_11 rfl ?_
        refine zs_iconst (pc := 12) C dX9_layPairs_12 (by decide) ?_
        refine zs_iast (r := 2103) (pc := 13) C dX9_layPairs_13 a_103 (by decide) (by omega) rfl (r_2103 _) (by omega) ?_
        first | refine zs_iinc (pc := 14) C dX9_layPairs_14 rfl (by decide) (by omega) ?_ | refine zs_iincF (pc := 14) C dX9_layPairs_14 rfl (by decide) (fun z14 hz141 hz142 => ?_)
        dsimp only [zset, zclr, znone]
        refine zs_goto (tgt := 2) (pc := 17) C dX9_layPairs_17 (by decide) ?_
        exact zs_wk (ih2 _ _ (by omega) (by repeat (first | exact zsm_rf | assumption | refine zsm_C (by decide) ?_ | refine zsm_I (by decide) ?_ | refine zsm_J ?_ | refine zsm_c (by assumption) (by decide) ?_)) (lowU5 h2_2 h2_0.1 (by decide)) (by with_reducible repeat (first | exact RO_rf | assumption | refine RO_0 (by decide) ?_ | refine RO_n 20 (by decide) (by omega) ?_ | refine RO_n 5 (by decide) (by omega) ?_ | refine RO_n 60 (by decide) (by omega) ?_ | refine RO_n 1 (by decide) (by omega) ?_ | refine RO_J (by decide) ?_ | refine RO_c (by assumption) ?_)) (by first | omega | (simp only [zuI_1, zuI_2, zuJ_1, zuJ_2, zuJ_3, zuP_1, zuP_2, zuP_3, zuC_1, zuC_2, reduceIte, Nat.reduceEqDiff, false_and, and_false, true_and, and_true, and_self, or_true, true_or, or_false, false_or]; omega))) (zwk_s rfl (zwk_s rfl (zwk_n (zwk_n (zwk_n (zwk_n zwk_0))))))
  exact zs_wk (L2 _ _ _ (by omega) (by repeat (first | exact zsm_rf | assumption | refine zsm_C (by decide) ?_ | refine zsm_I (by decide) ?_ | refine zsm_J ?_ | refine zsm_c (by assumption) (by decide) ?_)) (fun i hi => absurd hi (by omega)) (by with_reducible repeat (first | exact RO_rf | assumption | refine RO_0 (by decide) ?_ | refine RO_n 20 (by decide) (by omega) ?_ | refine RO_n 5 (by decide) (by omega) ?_ | refine RO_n 60 (by decide) (by omega) ?_ | refine RO_n 1 (by decide) (by omega) ?_ | refine RO_J (by decide) ?_ | refine RO_c (by assumption) ?_)) (Nat.lt_succ_self _)) (zwk_s rfl (zwk_s rfl (zwk_n (zwk_n (zwk_n (zwk_n zwk_0))))))

set_option maxHeartbeats 4000000 in
set_option maxRecDepth 100000 in
theorem c_X9_pairsO {l : Launch} {Γ : zΓ} {G : zH} {w : Nat}  (hX : zXs Γ) (hM : MI Γ w G) : zMet l Γ yX9_pairs cX9_pairs 1 (some .long) 5 [zr 10 w] G (zpj (fun x G' => zsm [1050, 2103, 2104, 1002] G G' ∧ RO G G' ∧ True)) := by
  refine zMet_of RX9 hX (by decide) rfl (Nat.le_of_ble_eq_true rfl) ?_
  intro p e s m args below meth c C hr hlk
  show Z p l e (zrm 5) s m args below meth c Γ 1 0 0 (MQ below (zQc Γ (zpj (fun x G' => zsm [1050, 2103, 2104, 1002] G G' ∧ RO G G' ∧ True))) args s 0 0 (zA Γ)) 0 [some (zr 10 w)] [] G
  refine zs_aload_n (pc := 0) C dX9_pairs_0 rfl ?_
  refine zs_iconst (pc := 1) C dX9_pairs_1 (by decide) ?_
  refine zs_puti (r := 1002) (pc := 2) C dX9_pairs_2 w_X9_178 f_10_2 rfl (r_1002 0) (by omega) ?_
  refine zs_aload_n (pc := 5) C dX9_pairs_5 rfl ?_
  refine zs_geti (r := 1013) (pc := 6) C dX9_pairs_6 w_X9_261 f_10_13 rfl (r_1013 0) (fun v6 e6 l6 u6 => ?_)
  try simp only [zuI_1, zuI_2, zuJ_1, zuJ_2, zuJ_3, zuP_1, zuP_2, zuP_3, zuC_1, zuC_2, reduceIte, Nat.reduceEqDiff, false_and, and_false, true_and, and_true, and_self, or_true, true_or, or_false, false_or] at e6
  refine zs_if_ne (tgt := 16) (pc := 9) C dX9_pairs_9 (by decide) (fun h9 => ?_) (fun h9 => ?_)
  · skip
    refine zs_aload_n (pc := 16) C dX9_pairs_16 rfl ?_
    refine zVv0 (pc := 17) C dX9_pairs_17 v_X9_538 (c_X9_layPairsO hX (by repeat (first | assumption | refine MI_I (by decide) ?_ | refine MI_J ?_ | refine MI_sm (by assumption) (by decide) ?_ | refine MI_sn (by assumption) (by decide) ?_))) (by decide) (by decide) ⟨Nat.zero_le _, Nat.zero_le _⟩ (Nat.le_of_ble_eq_true rfl) (fun G17 hp17 => ?_)
    obtain ⟨hz17, lo17, hq17⟩ := hp17
    try simp only [zuI_1, zuI_2, zuJ_1, zuJ_2, zuJ_3, zuP_1, zuP_2, zuP_3, zuC_1, zuC_2, reduceIte, Nat.reduceEqDiff, false_and, and_false, true_and, and_true, and_self, or_true, true_or, or_false, false_or] at hq17
    refine zs_aload_n (pc := 20) C dX9_pairs_20 rfl ?_
    refine zs_getj (r := 1082) (pc := 21) C dX9_pairs_21 w_X9_532 f_10_82 rfl (fun v21 e21 l21 u21 => ?_)
    exact zs_lret (pc := 24) C hr hlk dX9_pairs_24 ⟨by repeat (first | exact zsm_rf | assumption | refine zsm_C (by decide) ?_ | refine zsm_I (by decide) ?_ | refine zsm_J ?_ | refine zsm_c (by assumption) (by decide) ?_), (by with_reducible repeat (first | exact RO_rf | assumption | refine RO_0 (by decide) ?_ | refine RO_n 20 (by decide) (by omega) ?_ | refine RO_n 5 (by decide) (by omega) ?_ | refine RO_n 60 (by decide) (by omega) ?_ | refine RO_n 1 (by decide) (by omega) ?_ | refine RO_J (by decide) ?_ | refine RO_c (by assumption) ?_)), trivial⟩
  · skip
    refine zs_ldc2 (n := -9223372036854775808) (pc := 12) C dX9_pairs_12 q_X9_433 (by decide) (by decide) ?_
    exact zs_lret (pc := 15) C hr hlk dX9_pairs_15 ⟨by repeat (first | exact zsm_rf | assumption | refine zsm_C (by decide) ?_ | refine zsm_I (by decide) ?_ | refine zsm_J ?_ | refine zsm_c (by assumption) (by decide) ?_), (by with_reducible repeat (first | exact RO_rf | assumption | refine RO_0 (by decide) ?_ | refine RO_n 20 (by decide) (by omega) ?_ | refine RO_n 5 (by decide) (by omega) ?_ | refine RO_n 60 (by decide) (by omega) ?_ | refine RO_n 1 (by decide) (by omega) ?_ | refine RO_J (by decide) ?_ | refine RO_c (by assumption) ?_)), trivial⟩

set_option maxHeartbeats 4000000 in
set_option maxRecDepth 100000 in
theorem c_X9_pairedO {l : Launch} {Γ : zΓ} {G : zH} {w : Nat} {a : Int} (hX : zXs Γ) (hM : MI Γ w G) : zMet l Γ yX9_paired cX9_paired 2 (some .int) 5 [zr 10 w, zi a] G (zpi (fun x G' => zsm [1050, 2103, 2104, 1002] G G' ∧ RO G G' ∧ True)) := by
  refine zMet_of RX9 hX (by decide) rfl (Nat.le_of_ble_eq_true rfl) ?_
  intro p e s m args below meth c C hr hlk
  show Z p l e (zrm 5) s m args below meth c Γ 2 0 0 (MQ below (zQc Γ (zpi (fun x G' => zsm [1050, 2103, 2104, 1002] G G' ∧ RO G G' ∧ True))) args s 0 0 (zA Γ)) 0 [some (zr 10 w), some (zi a)] [] G
  refine zs_loc 1 rfl (fun ha1 hb1 => ?_)
  refine zs_aload_n (pc := 0) C dX9_paired_0 rfl ?_
  refine zs_iconst (pc := 1) C dX9_paired_1 (by decide) ?_
  refine zs_puti (r := 1002) (pc := 2) C dX9_paired_2 w_X9_178 f_10_2 rfl (r_1002 0) (by omega) ?_
  refine zs_aload_n (pc := 5) C dX9_paired_5 rfl ?_
  refine zs_iload_n (pc := 6) C dX9_paired_6 rfl ?_
  refine zVip1 (pc := 7) C dX9_paired_7 v_X9_398 (c_X9_isPerson hX ) (by decide) (by decide) ⟨Nat.zero_le _, Nat.zero_le _⟩ (Nat.le_of_ble_eq_true rfl) (fun x7 l7 u7 hp7 => ?_)
  have hq7 := hp7
  try simp only [zuI_1, zuI_2, zuJ_1, zuJ_2, zuJ_3, zuP_1, zuP_2, zuP_3, zuC_1, zuC_2, reduceIte, Nat.reduceEqDiff, false_and, and_false, true_and, and_true, and_self, or_true, true_or, or_false, false_or] at hq7
  refine zs_if_ne (tgt := 15) (pc := 10) C dX9_paired_10 (by decide) (fun h10 => ?_) (fun h10 => ?_)
  · skip
    refine zs_aload_n (pc := 15) C dX9_paired_15 rfl ?_
    refine zVv0 (pc := 16) C dX9_paired_16 v_X9_538 (c_X9_layPairsO hX (by repeat (first | assumption | refine MI_I (by decide) ?_ | refine MI_J ?_ | refine MI_sm (by assumption) (by decide) ?_ | refine MI_sn (by assumption) (by decide) ?_))) (by decide) (by decide) ⟨Nat.zero_le _, Nat.zero_le _⟩ (Nat.le_of_ble_eq_true rfl) (fun G16 hp16 => ?_)
    obtain ⟨hz16, lo16, hq16⟩ := hp16
    try simp only [zuI_1, zuI_2, zuJ_1, zuJ_2, zuJ_3, zuP_1, zuP_2, zuP_3, zuC_1, zuC_2, reduceIte, Nat.reduceEqDiff, false_and, and_false, true_and, and_true, and_self, or_true, true_or, or_false, false_or] at hq16
    refine zs_aload_n (pc := 19) C dX9_paired_19 rfl ?_
    refine zs_getf (pc := 20) C dX9_paired_20 w_X9_160 f_10_81 (by decide) ?_
    refine zs_iload_n (pc := 23) C dX9_paired_23 rfl ?_
    refine zs_iald (r := 2104) (pc := 24) C dX9_paired_24 a_104 (by decide) (by omega) rfl (r_2104 _) (fun v24 e24 l24 u24 => ?_)
    refine zs_aload_n (pc := 25) C dX9_paired_25 rfl ?_
    refine zs_geti (r := 1013) (pc := 26) C dX9_paired_26 w_X9_261 f_10_13 rfl (r_1013 0) (fun v26 e26 l26 u26 => ?_)
    refine zs_icmp_ne (tgt := 37) (pc := 29) C dX9_paired_29 (by decide) (fun h29 => ?_) (fun h29 => ?_)
    · skip
      refine zs_aload_n (pc := 37) C dX9_paired_37 rfl ?_
      refine zs_getf (pc := 38) C dX9_paired_38 w_X9_160 f_10_81 (by decide) ?_
      refine zs_iload_n (pc := 41) C dX9_paired_41 rfl ?_
      refine zs_iald (r := 2104) (pc := 42) C dX9_paired_42 a_104 (by decide) (by omega) rfl (r_2104 _) (fun v42 e42 l42 u42 => ?_)
      exact zs_iret (pc := 43) C hr hlk dX9_paired_43 ⟨by repeat (first | exact zsm_rf | assumption | refine zsm_C (by decide) ?_ | refine zsm_I (by decide) ?_ | refine zsm_J ?_ | refine zsm_c (by assumption) (by decide) ?_), (by with_reducible repeat (first | exact RO_rf | assumption | refine RO_0 (by decide) ?_ | refine RO_n 20 (by decide) (by omega) ?_ | refine RO_n 5 (by decide) (by omega) ?_ | refine RO_n 60 (by decide) (by omega) ?_ | refine RO_n 1 (by decide) (by omega) ?_ | refine RO_J (by decide) ?_ | refine RO_c (by assumption) ?_)), trivial⟩
    · skip
      refine zs_bipush (pc := 32) C dX9_paired_32 (by decide) (by decide) ?_
      refine zs_goto (tgt := 43) (pc := 34) C dX9_paired_34 (by decide) ?_
      exact zs_iret (pc := 43) C hr hlk dX9_paired_43 ⟨by repeat (first | exact zsm_rf | assumption | refine zsm_C (by decide) ?_ | refine zsm_I (by decide) ?_ | refine zsm_J ?_ | refine zsm_c (by assumption) (by decide) ?_), (by with_reducible repeat (first | exact RO_rf | assumption | refine RO_0 (by decide) ?_ | refine RO_n 20 (by decide) (by omega) ?_ | refine RO_n 5 (by decide) (by omega) ?_ | refine RO_n 60 (by decide) (by omega) ?_ | refine RO_n 1 (by decide) (by omega) ?_ | refine RO_J (by decide) ?_ | refine RO_c (by assumption) ?_)), trivial⟩
  · skip
    refine zs_iconst (pc := 13) C dX9_paired_13 (by decide) ?_
    exact zs_iret (pc := 14) C hr hlk dX9_paired_14 ⟨by repeat (first | exact zsm_rf | assumption | refine zsm_C (by decide) ?_ | refine zsm_I (by decide) ?_ | refine zsm_J ?_ | refine zsm_c (by assumption) (by decide) ?_), (by with_reducible repeat (first | exact RO_rf | assumption | refine RO_0 (by decide) ?_ | refine RO_n 20 (by decide) (by omega) ?_ | refine RO_n 5 (by decide) (by omega) ?_ | refine RO_n 60 (by decide) (by omega) ?_ | refine RO_n 1 (by decide) (by omega) ?_ | refine RO_J (by decide) ?_ | refine RO_c (by assumption) ?_)), trivial⟩

set_option maxHeartbeats 4000000 in
set_option maxRecDepth 100000 in
theorem c_X9_lookO {l : Launch} {Γ : zΓ} {G : zH} {w : Nat} {a b : Int} (hX : zXs Γ)  : zMet l Γ yX9_look cX9_look 3 (some .int) 2 [zr 10 w, zi a, zi b] G (zpi (fun x G' => zsm [1002] G G' ∧ RO G G' ∧ True)) := by
  refine zMet_of RX9 hX (by decide) rfl (Nat.le_of_ble_eq_true rfl) ?_
  intro p e s m args below meth c C hr hlk
  show Z p l e (zrm 2) s m args below meth c Γ 3 0 0 (MQ below (zQc Γ (zpi (fun x G' => zsm [1002] G G' ∧ RO G G' ∧ True))) args s 0 0 (zA Γ)) 0 [some (zr 10 w), some (zi a), some (zi b)] [] G
  refine zs_loc 1 rfl (fun ha1 hb1 => ?_)
  refine zs_loc 2 rfl (fun ha2 hb2 => ?_)
  refine zs_aload_n (pc := 0) C dX9_look_0 rfl ?_
  refine zs_iconst (pc := 1) C dX9_look_1 (by decide) ?_
  refine zs_puti (r := 1002) (pc := 2) C dX9_look_2 w_X9_178 f_10_2 rfl (r_1002 0) (by omega) ?_
  refine zs_aload_n (pc := 5) C dX9_look_5 rfl ?_
  refine zs_iload_n (pc := 6) C dX9_look_6 rfl ?_
  refine zVip1 (pc := 7) C dX9_look_7 v_X9_398 (c_X9_isPerson hX ) (by decide) (by decide) ⟨Nat.zero_le _, Nat.zero_le _⟩ (Nat.le_of_ble_eq_true rfl) (fun x7 l7 u7 hp7 => ?_)
  have hq7 := hp7
  try simp only [zuI_1, zuI_2, zuJ_1, zuJ_2, zuJ_3, zuP_1, zuP_2, zuP_3, zuC_1, zuC_2, reduceIte, Nat.reduceEqDiff, false_and, and_false, true_and, and_true, and_self, or_true, true_or, or_false, false_or] at hq7
  refine zs_if_ne (tgt := 19) (pc := 10) C dX9_look_10 (by decide) (fun h10 => ?_) (fun h10 => ?_)
  · skip
    refine zs_iload_n (pc := 19) C dX9_look_19 rfl ?_
    refine zs_name (fun y20 ey20 => ?_)
    rcases (show y20 = 0 ∨ y20 = 1 ∨ y20 = 2 ∨ y20 = 3 ∨ y20 = 4 ∨ (y20 < 0 ∨ 4 < y20) by omega) with h20 | h20 | h20 | h20 | h20 | h20
    · skip
      refine zs_tabIn (pc := 20) (tgt := 56) C 0 dX9_look_20 h20 (by decide) rfl (by decide) ?_
      refine zs_aload_n (pc := 56) C dX9_look_56 rfl ?_
      refine zs_getf (pc := 57) C dX9_look_57 w_X9_36 f_10_27 (by decide) ?_
      refine zs_iload_n (pc := 60) C dX9_look_60 rfl ?_
      refine zs_iald (r := 2064) (pc := 61) C dX9_look_61 a_64 (by decide) (by omega) rfl (r_2064 _) (fun v61 e61 l61 u61 => ?_)
      try simp only [zuI_1, zuI_2, zuJ_1, zuJ_2, zuJ_3, zuP_1, zuP_2, zuP_3, zuC_1, zuC_2, reduceIte, Nat.reduceEqDiff, false_and, and_false, true_and, and_true, and_self, or_true, true_or, or_false, false_or] at e61
      exact zs_iret (pc := 62) C hr hlk dX9_look_62 ⟨by repeat (first | exact zsm_rf | assumption | refine zsm_C (by decide) ?_ | refine zsm_I (by decide) ?_ | refine zsm_J ?_ | refine zsm_c (by assumption) (by decide) ?_), (by with_reducible repeat (first | exact RO_rf | assumption | refine RO_0 (by decide) ?_ | refine RO_n 20 (by decide) (by omega) ?_ | refine RO_n 5 (by decide) (by omega) ?_ | refine RO_n 60 (by decide) (by omega) ?_ | refine RO_n 1 (by decide) (by omega) ?_ | refine RO_J (by decide) ?_ | refine RO_c (by assumption) ?_)), trivial⟩
    · skip
      refine zs_tabIn (pc := 20) (tgt := 63) C 1 dX9_look_20 h20 (by decide) rfl (by decide) ?_
      refine zs_aload_n (pc := 63) C dX9_look_63 rfl ?_
      refine zs_getf (pc := 64) C dX9_look_64 w_X9_94 f_10_53 (by decide) ?_
      refine zs_iload_n (pc := 67) C dX9_look_67 rfl ?_
      refine zs_iald (r := 2083) (pc := 68) C dX9_look_68 a_83 (by decide) (by omega) rfl (r_2083 _) (fun v68 e68 l68 u68 => ?_)
      try simp only [zuI_1, zuI_2, zuJ_1, zuJ_2, zuJ_3, zuP_1, zuP_2, zuP_3, zuC_1, zuC_2, reduceIte, Nat.reduceEqDiff, false_and, and_false, true_and, and_true, and_self, or_true, true_or, or_false, false_or] at e68
      exact zs_iret (pc := 69) C hr hlk dX9_look_69 ⟨by repeat (first | exact zsm_rf | assumption | refine zsm_C (by decide) ?_ | refine zsm_I (by decide) ?_ | refine zsm_J ?_ | refine zsm_c (by assumption) (by decide) ?_), (by with_reducible repeat (first | exact RO_rf | assumption | refine RO_0 (by decide) ?_ | refine RO_n 20 (by decide) (by omega) ?_ | refine RO_n 5 (by decide) (by omega) ?_ | refine RO_n 60 (by decide) (by omega) ?_ | refine RO_n 1 (by decide) (by omega) ?_ | refine RO_J (by decide) ?_ | refine RO_c (by assumption) ?_)), trivial⟩
    · skip
      refine zs_tabIn (pc := 20) (tgt := 70) C 2 dX9_look_20 h20 (by decide) rfl (by decide) ?_
      refine zs_aload_n (pc := 70) C dX9_look_70 rfl ?_
      refine zs_getf (pc := 71) C dX9_look_71 w_X9_97 f_10_54 (by decide) ?_
      refine zs_iload_n (pc := 74) C dX9_look_74 rfl ?_
      refine zs_iald (r := 2084) (pc := 75) C dX9_look_75 a_84 (by decide) (by omega) rfl (r_2084 _) (fun v75 e75 l75 u75 => ?_)
      try simp only [zuI_1, zuI_2, zuJ_1, zuJ_2, zuJ_3, zuP_1, zuP_2, zuP_3, zuC_1, zuC_2, reduceIte, Nat.reduceEqDiff, false_and, and_false, true_and, and_true, and_self, or_true, true_or, or_false, false_or] at e75
      exact zs_iret (pc := 76) C hr hlk dX9_look_76 ⟨by repeat (first | exact zsm_rf | assumption | refine zsm_C (by decide) ?_ | refine zsm_I (by decide) ?_ | refine zsm_J ?_ | refine zsm_c (by assumption) (by decide) ?_), (by with_reducible repeat (first | exact RO_rf | assumption | refine RO_0 (by decide) ?_ | refine RO_n 20 (by decide) (by omega) ?_ | refine RO_n 5 (by decide) (by omega) ?_ | refine RO_n 60 (by decide) (by omega) ?_ | refine RO_n 1 (by decide) (by omega) ?_ | refine RO_J (by decide) ?_ | refine RO_c (by assumption) ?_)), trivial⟩
    · skip
      refine zs_tabIn (pc := 20) (tgt := 77) C 3 dX9_look_20 h20 (by decide) rfl (by decide) ?_
      refine zs_aload_n (pc := 77) C dX9_look_77 rfl ?_
      refine zs_iconst (pc := 78) C dX9_look_78 (by decide) ?_
      refine zs_iload_n (pc := 79) C dX9_look_79 rfl ?_
      refine zVip2 (pc := 80) C dX9_look_80 v_X9_404 (c_X9_prideOf hX (by first | omega | (simp only [zuI_1, zuI_2, zuJ_1, zuJ_2, zuJ_3, zuP_1, zuP_2, zuP_3, zuC_1, zuC_2, reduceIte, Nat.reduceEqDiff, false_and, and_false, true_and, and_true, and_self, or_true, true_or, or_false, false_or]; omega)) (by first | omega | (simp only [zuI_1, zuI_2, zuJ_1, zuJ_2, zuJ_3, zuP_1, zuP_2, zuP_3, zuC_1, zuC_2, reduceIte, Nat.reduceEqDiff, false_and, and_false, true_and, and_true, and_self, or_true, true_or, or_false, false_or]; omega))) (by decide) (by decide) ⟨Nat.zero_le _, Nat.zero_le _⟩ (Nat.le_of_ble_eq_true rfl) (fun x80 l80 u80 hp80 => ?_)
      have hq80 := hp80
      try simp only [zuI_1, zuI_2, zuJ_1, zuJ_2, zuJ_3, zuP_1, zuP_2, zuP_3, zuC_1, zuC_2, reduceIte, Nat.reduceEqDiff, false_and, and_false, true_and, and_true, and_self, or_true, true_or, or_false, false_or] at hq80
      exact zs_iret (pc := 83) C hr hlk dX9_look_83 ⟨by repeat (first | exact zsm_rf | assumption | refine zsm_C (by decide) ?_ | refine zsm_I (by decide) ?_ | refine zsm_J ?_ | refine zsm_c (by assumption) (by decide) ?_), (by with_reducible repeat (first | exact RO_rf | assumption | refine RO_0 (by decide) ?_ | refine RO_n 20 (by decide) (by omega) ?_ | refine RO_n 5 (by decide) (by omega) ?_ | refine RO_n 60 (by decide) (by omega) ?_ | refine RO_n 1 (by decide) (by omega) ?_ | refine RO_J (by decide) ?_ | refine RO_c (by assumption) ?_)), trivial⟩
    · skip
      refine zs_tabIn (pc := 20) (tgt := 84) C 4 dX9_look_20 h20 (by decide) rfl (by decide) ?_
      refine zs_aload_n (pc := 84) C dX9_look_84 rfl ?_
      refine zs_getf (pc := 85) C dX9_look_85 w_X9_100 f_10_55 (by decide) ?_
      refine zs_iload_n (pc := 88) C dX9_look_88 rfl ?_
      refine zs_iald (r := 2085) (pc := 89) C dX9_look_89 a_85 (by decide) (by omega) rfl (r_2085 _) (fun v89 e89 l89 u89 => ?_)
      try simp only [zuI_1, zuI_2, zuJ_1, zuJ_2, zuJ_3, zuP_1, zuP_2, zuP_3, zuC_1, zuC_2, reduceIte, Nat.reduceEqDiff, false_and, and_false, true_and, and_true, and_self, or_true, true_or, or_false, false_or] at e89
      exact zs_iret (pc := 90) C hr hlk dX9_look_90 ⟨by repeat (first | exact zsm_rf | assumption | refine zsm_C (by decide) ?_ | refine zsm_I (by decide) ?_ | refine zsm_J ?_ | refine zsm_c (by assumption) (by decide) ?_), (by with_reducible repeat (first | exact RO_rf | assumption | refine RO_0 (by decide) ?_ | refine RO_n 20 (by decide) (by omega) ?_ | refine RO_n 5 (by decide) (by omega) ?_ | refine RO_n 60 (by decide) (by omega) ?_ | refine RO_n 1 (by decide) (by omega) ?_ | refine RO_J (by decide) ?_ | refine RO_c (by assumption) ?_)), trivial⟩
    · skip
      refine zs_tabOut (tgt := 91) (pc := 20) C dX9_look_20 h20 (by decide) ?_
      refine zs_aload_n (pc := 91) C dX9_look_91 rfl ?_
      refine zs_iconst (pc := 92) C dX9_look_92 (by decide) ?_
      refine zVi1 (pc := 93) C dX9_look_93 v_X9_401 (c_X9_failsO hX ) (by decide) (by decide) ⟨Nat.zero_le _, Nat.zero_le _⟩ (Nat.le_of_ble_eq_true rfl) (fun x93 G93 l93 u93 hp93 => ?_)
      obtain ⟨hz93, lo93, hq93⟩ := hp93
      try simp only [zuI_1, zuI_2, zuJ_1, zuJ_2, zuJ_3, zuP_1, zuP_2, zuP_3, zuC_1, zuC_2, reduceIte, Nat.reduceEqDiff, false_and, and_false, true_and, and_true, and_self, or_true, true_or, or_false, false_or] at hq93
      exact zs_iret (pc := 96) C hr hlk dX9_look_96 ⟨by repeat (first | exact zsm_rf | assumption | refine zsm_C (by decide) ?_ | refine zsm_I (by decide) ?_ | refine zsm_J ?_ | refine zsm_c (by assumption) (by decide) ?_), (by with_reducible repeat (first | exact RO_rf | assumption | refine RO_0 (by decide) ?_ | refine RO_n 20 (by decide) (by omega) ?_ | refine RO_n 5 (by decide) (by omega) ?_ | refine RO_n 60 (by decide) (by omega) ?_ | refine RO_n 1 (by decide) (by omega) ?_ | refine RO_J (by decide) ?_ | refine RO_c (by assumption) ?_)), trivial⟩
  · skip
    refine zs_aload_n (pc := 13) C dX9_look_13 rfl ?_
    refine zs_iconst (pc := 14) C dX9_look_14 (by decide) ?_
    refine zVi1 (pc := 15) C dX9_look_15 v_X9_401 (c_X9_failsO hX ) (by decide) (by decide) ⟨Nat.zero_le _, Nat.zero_le _⟩ (Nat.le_of_ble_eq_true rfl) (fun x15 G15 l15 u15 hp15 => ?_)
    obtain ⟨hz15, lo15, hq15⟩ := hp15
    try simp only [zuI_1, zuI_2, zuJ_1, zuJ_2, zuJ_3, zuP_1, zuP_2, zuP_3, zuC_1, zuC_2, reduceIte, Nat.reduceEqDiff, false_and, and_false, true_and, and_true, and_self, or_true, true_or, or_false, false_or] at hq15
    exact zs_iret (pc := 18) C hr hlk dX9_look_18 ⟨by repeat (first | exact zsm_rf | assumption | refine zsm_C (by decide) ?_ | refine zsm_I (by decide) ?_ | refine zsm_J ?_ | refine zsm_c (by assumption) (by decide) ?_), (by with_reducible repeat (first | exact RO_rf | assumption | refine RO_0 (by decide) ?_ | refine RO_n 20 (by decide) (by omega) ?_ | refine RO_n 5 (by decide) (by omega) ?_ | refine RO_n 60 (by decide) (by omega) ?_ | refine RO_n 1 (by decide) (by omega) ?_ | refine RO_J (by decide) ?_ | refine RO_c (by assumption) ?_)), trivial⟩

set_option maxHeartbeats 4000000 in
set_option maxRecDepth 100000 in
theorem c_X9_countO {l : Launch} {Γ : zΓ} {G : zH} {w : Nat} {k : Int} (hX : zXs Γ)  : zMet l Γ yX9_count cX9_count 2 (some .int) 1 [zr 10 w, zi k] G (zpi (fun x G' => zsm [1002] G G' ∧ RO G G' ∧ True)) := by
  refine zMet_of RX9 hX (by decide) rfl (Nat.le_of_ble_eq_true rfl) ?_
  intro p e s m args below meth c C hr hlk
  show Z p l e (zrm 1) s m args below meth c Γ 2 0 0 (MQ below (zQc Γ (zpi (fun x G' => zsm [1002] G G' ∧ RO G G' ∧ True))) args s 0 0 (zA Γ)) 0 [some (zr 10 w), some (zi k)] [] G
  refine zs_loc 1 rfl (fun ha1 hb1 => ?_)
  refine zs_aload_n (pc := 0) C dX9_count_0 rfl ?_
  refine zs_iconst (pc := 1) C dX9_count_1 (by decide) ?_
  refine zs_puti (r := 1002) (pc := 2) C dX9_count_2 w_X9_178 f_10_2 rfl (r_1002 0) (by omega) ?_
  refine zs_iload_n (pc := 5) C dX9_count_5 rfl ?_
  refine zs_name (fun y6 ey6 => ?_)
  rcases (show y6 = 0 ∨ y6 = 1 ∨ y6 = 2 ∨ y6 = 3 ∨ y6 = 4 ∨ y6 = 5 ∨ y6 = 6 ∨ y6 = 7 ∨ y6 = 8 ∨ y6 = 9 ∨ y6 = 10 ∨ y6 = 11 ∨ (y6 < 0 ∨ 11 < y6) by omega) with h6 | h6 | h6 | h6 | h6 | h6 | h6 | h6 | h6 | h6 | h6 | h6 | h6
  · skip
    refine zs_tabIn (pc := 6) (tgt := 68) C 0 dX9_count_6 h6 (by decide) rfl (by decide) ?_
    refine zs_aload_n (pc := 68) C dX9_count_68 rfl ?_
    refine zs_geti (r := 1012) (pc := 69) C dX9_count_69 w_X9_258 f_10_12 rfl (r_1012 0) (fun v69 e69 l69 u69 => ?_)
    try simp only [zuI_1, zuI_2, zuJ_1, zuJ_2, zuJ_3, zuP_1, zuP_2, zuP_3, zuC_1, zuC_2, reduceIte, Nat.reduceEqDiff, false_and, and_false, true_and, and_true, and_self, or_true, true_or, or_false, false_or] at e69
    exact zs_iret (pc := 72) C hr hlk dX9_count_72 ⟨by repeat (first | exact zsm_rf | assumption | refine zsm_C (by decide) ?_ | refine zsm_I (by decide) ?_ | refine zsm_J ?_ | refine zsm_c (by assumption) (by decide) ?_), (by with_reducible repeat (first | exact RO_rf | assumption | refine RO_0 (by decide) ?_ | refine RO_n 20 (by decide) (by omega) ?_ | refine RO_n 5 (by decide) (by omega) ?_ | refine RO_n 60 (by decide) (by omega) ?_ | refine RO_n 1 (by decide) (by omega) ?_ | refine RO_J (by decide) ?_ | refine RO_c (by assumption) ?_)), trivial⟩
  · skip
    refine zs_tabIn (pc := 6) (tgt := 73) C 1 dX9_count_6 h6 (by decide) rfl (by decide) ?_
    refine zs_aload_n (pc := 73) C dX9_count_73 rfl ?_
    refine zs_geti (r := 1013) (pc := 74) C dX9_count_74 w_X9_261 f_10_13 rfl (r_1013 0) (fun v74 e74 l74 u74 => ?_)
    try simp only [zuI_1, zuI_2, zuJ_1, zuJ_2, zuJ_3, zuP_1, zuP_2, zuP_3, zuC_1, zuC_2, reduceIte, Nat.reduceEqDiff, false_and, and_false, true_and, and_true, and_self, or_true, true_or, or_false, false_or] at e74
    exact zs_iret (pc := 77) C hr hlk dX9_count_77 ⟨by repeat (first | exact zsm_rf | assumption | refine zsm_C (by decide) ?_ | refine zsm_I (by decide) ?_ | refine zsm_J ?_ | refine zsm_c (by assumption) (by decide) ?_), (by with_reducible repeat (first | exact RO_rf | assumption | refine RO_0 (by decide) ?_ | refine RO_n 20 (by decide) (by omega) ?_ | refine RO_n 5 (by decide) (by omega) ?_ | refine RO_n 60 (by decide) (by omega) ?_ | refine RO_n 1 (by decide) (by omega) ?_ | refine RO_J (by decide) ?_ | refine RO_c (by assumption) ?_)), trivial⟩
  · skip
    refine zs_tabIn (pc := 6) (tgt := 78) C 2 dX9_count_6 h6 (by decide) rfl (by decide) ?_
    refine zs_aload_n (pc := 78) C dX9_count_78 rfl ?_
    refine zs_geti (r := 1014) (pc := 79) C dX9_count_79 w_X9_264 f_10_14 rfl (r_1014 0) (fun v79 e79 l79 u79 => ?_)
    try simp only [zuI_1, zuI_2, zuJ_1, zuJ_2, zuJ_3, zuP_1, zuP_2, zuP_3, zuC_1, zuC_2, reduceIte, Nat.reduceEqDiff, false_and, and_false, true_and, and_true, and_self, or_true, true_or, or_false, false_or] at e79
    exact zs_iret (pc := 82) C hr hlk dX9_count_82 ⟨by repeat (first | exact zsm_rf | assumption | refine zsm_C (by decide) ?_ | refine zsm_I (by decide) ?_ | refine zsm_J ?_ | refine zsm_c (by assumption) (by decide) ?_), (by with_reducible repeat (first | exact RO_rf | assumption | refine RO_0 (by decide) ?_ | refine RO_n 20 (by decide) (by omega) ?_ | refine RO_n 5 (by decide) (by omega) ?_ | refine RO_n 60 (by decide) (by omega) ?_ | refine RO_n 1 (by decide) (by omega) ?_ | refine RO_J (by decide) ?_ | refine RO_c (by assumption) ?_)), trivial⟩
  · skip
    refine zs_tabIn (pc := 6) (tgt := 83) C 3 dX9_count_6 h6 (by decide) rfl (by decide) ?_
    refine zs_aload_n (pc := 83) C dX9_count_83 rfl ?_
    refine zs_geti (r := 1015) (pc := 84) C dX9_count_84 w_X9_267 f_10_15 rfl (r_1015 0) (fun v84 e84 l84 u84 => ?_)
    try simp only [zuI_1, zuI_2, zuJ_1, zuJ_2, zuJ_3, zuP_1, zuP_2, zuP_3, zuC_1, zuC_2, reduceIte, Nat.reduceEqDiff, false_and, and_false, true_and, and_true, and_self, or_true, true_or, or_false, false_or] at e84
    exact zs_iret (pc := 87) C hr hlk dX9_count_87 ⟨by repeat (first | exact zsm_rf | assumption | refine zsm_C (by decide) ?_ | refine zsm_I (by decide) ?_ | refine zsm_J ?_ | refine zsm_c (by assumption) (by decide) ?_), (by with_reducible repeat (first | exact RO_rf | assumption | refine RO_0 (by decide) ?_ | refine RO_n 20 (by decide) (by omega) ?_ | refine RO_n 5 (by decide) (by omega) ?_ | refine RO_n 60 (by decide) (by omega) ?_ | refine RO_n 1 (by decide) (by omega) ?_ | refine RO_J (by decide) ?_ | refine RO_c (by assumption) ?_)), trivial⟩
  · skip
    refine zs_tabIn (pc := 6) (tgt := 88) C 4 dX9_count_6 h6 (by decide) rfl (by decide) ?_
    refine zs_aload_n (pc := 88) C dX9_count_88 rfl ?_
    refine zs_geti (r := 1016) (pc := 89) C dX9_count_89 w_X9_270 f_10_16 rfl (r_1016 0) (fun v89 e89 l89 u89 => ?_)
    try simp only [zuI_1, zuI_2, zuJ_1, zuJ_2, zuJ_3, zuP_1, zuP_2, zuP_3, zuC_1, zuC_2, reduceIte, Nat.reduceEqDiff, false_and, and_false, true_and, and_true, and_self, or_true, true_or, or_false, false_or] at e89
    exact zs_iret (pc := 92) C hr hlk dX9_count_92 ⟨by repeat (first | exact zsm_rf | assumption | refine zsm_C (by decide) ?_ | refine zsm_I (by decide) ?_ | refine zsm_J ?_ | refine zsm_c (by assumption) (by decide) ?_), (by with_reducible repeat (first | exact RO_rf | assumption | refine RO_0 (by decide) ?_ | refine RO_n 20 (by decide) (by omega) ?_ | refine RO_n 5 (by decide) (by omega) ?_ | refine RO_n 60 (by decide) (by omega) ?_ | refine RO_n 1 (by decide) (by omega) ?_ | refine RO_J (by decide) ?_ | refine RO_c (by assumption) ?_)), trivial⟩
  · skip
    refine zs_tabIn (pc := 6) (tgt := 93) C 5 dX9_count_6 h6 (by decide) rfl (by decide) ?_
    refine zs_aload_n (pc := 93) C dX9_count_93 rfl ?_
    refine zs_getf (pc := 94) C dX9_count_94 w_X9_115 f_10_60 (by decide) ?_
    refine zs_iconst (pc := 97) C dX9_count_97 (by decide) ?_
    refine zs_iald (r := 2090) (pc := 98) C dX9_count_98 a_90 (by decide) (by omega) rfl (r_2090 _) (fun v98 e98 l98 u98 => ?_)
    try simp only [zuI_1, zuI_2, zuJ_1, zuJ_2, zuJ_3, zuP_1, zuP_2, zuP_3, zuC_1, zuC_2, reduceIte, Nat.reduceEqDiff, false_and, and_false, true_and, and_true, and_self, or_true, true_or, or_false, false_or] at e98
    exact zs_iret (pc := 99) C hr hlk dX9_count_99 ⟨by repeat (first | exact zsm_rf | assumption | refine zsm_C (by decide) ?_ | refine zsm_I (by decide) ?_ | refine zsm_J ?_ | refine zsm_c (by assumption) (by decide) ?_), (by with_reducible repeat (first | exact RO_rf | assumption | refine RO_0 (by decide) ?_ | refine RO_n 20 (by decide) (by omega) ?_ | refine RO_n 5 (by decide) (by omega) ?_ | refine RO_n 60 (by decide) (by omega) ?_ | refine RO_n 1 (by decide) (by omega) ?_ | refine RO_J (by decide) ?_ | refine RO_c (by assumption) ?_)), trivial⟩
  · skip
    refine zs_tabIn (pc := 6) (tgt := 100) C 6 dX9_count_6 h6 (by decide) rfl (by decide) ?_
    refine zs_aload_n (pc := 100) C dX9_count_100 rfl ?_
    refine zs_getf (pc := 101) C dX9_count_101 w_X9_106 f_10_57 (by decide) ?_
    refine zs_iconst (pc := 104) C dX9_count_104 (by decide) ?_
    refine zs_iald (r := 2087) (pc := 105) C dX9_count_105 a_87 (by decide) (by omega) rfl (r_2087 _) (fun v105 e105 l105 u105 => ?_)
    try simp only [zuI_1, zuI_2, zuJ_1, zuJ_2, zuJ_3, zuP_1, zuP_2, zuP_3, zuC_1, zuC_2, reduceIte, Nat.reduceEqDiff, false_and, and_false, true_and, and_true, and_self, or_true, true_or, or_false, false_or] at e105
    exact zs_iret (pc := 106) C hr hlk dX9_count_106 ⟨by repeat (first | exact zsm_rf | assumption | refine zsm_C (by decide) ?_ | refine zsm_I (by decide) ?_ | refine zsm_J ?_ | refine zsm_c (by assumption) (by decide) ?_), (by with_reducible repeat (first | exact RO_rf | assumption | refine RO_0 (by decide) ?_ | refine RO_n 20 (by decide) (by omega) ?_ | refine RO_n 5 (by decide) (by omega) ?_ | refine RO_n 60 (by decide) (by omega) ?_ | refine RO_n 1 (by decide) (by omega) ?_ | refine RO_J (by decide) ?_ | refine RO_c (by assumption) ?_)), trivial⟩
  · skip
    refine zs_tabIn (pc := 6) (tgt := 107) C 7 dX9_count_6 h6 (by decide) rfl (by decide) ?_
    refine zs_aload_n (pc := 107) C dX9_count_107 rfl ?_
    refine zVip0 (pc := 108) C dX9_count_108 v_X9_541 (c_X9_knownBy hX ) (by decide) (by decide) ⟨Nat.zero_le _, Nat.zero_le _⟩ (Nat.le_of_ble_eq_true rfl) (fun x108 l108 u108 hp108 => ?_)
    have hq108 := hp108
    try simp only [zuI_1, zuI_2, zuJ_1, zuJ_2, zuJ_3, zuP_1, zuP_2, zuP_3, zuC_1, zuC_2, reduceIte, Nat.reduceEqDiff, false_and, and_false, true_and, and_true, and_self, or_true, true_or, or_false, false_or] at hq108
    exact zs_iret (pc := 111) C hr hlk dX9_count_111 ⟨by repeat (first | exact zsm_rf | assumption | refine zsm_C (by decide) ?_ | refine zsm_I (by decide) ?_ | refine zsm_J ?_ | refine zsm_c (by assumption) (by decide) ?_), (by with_reducible repeat (first | exact RO_rf | assumption | refine RO_0 (by decide) ?_ | refine RO_n 20 (by decide) (by omega) ?_ | refine RO_n 5 (by decide) (by omega) ?_ | refine RO_n 60 (by decide) (by omega) ?_ | refine RO_n 1 (by decide) (by omega) ?_ | refine RO_J (by decide) ?_ | refine RO_c (by assumption) ?_)), trivial⟩
  · skip
    refine zs_tabIn (pc := 6) (tgt := 112) C 8 dX9_count_6 h6 (by decide) rfl (by decide) ?_
    refine zs_aload_n (pc := 112) C dX9_count_112 rfl ?_
    refine zs_geti (r := 1084) (pc := 113) C dX9_count_113 w_X9_382 f_10_84 rfl (r_1084 0) (fun v113 e113 l113 u113 => ?_)
    try simp only [zuI_1, zuI_2, zuJ_1, zuJ_2, zuJ_3, zuP_1, zuP_2, zuP_3, zuC_1, zuC_2, reduceIte, Nat.reduceEqDiff, false_and, and_false, true_and, and_true, and_self, or_true, true_or, or_false, false_or] at e113
    exact zs_iret (pc := 116) C hr hlk dX9_count_116 ⟨by repeat (first | exact zsm_rf | assumption | refine zsm_C (by decide) ?_ | refine zsm_I (by decide) ?_ | refine zsm_J ?_ | refine zsm_c (by assumption) (by decide) ?_), (by with_reducible repeat (first | exact RO_rf | assumption | refine RO_0 (by decide) ?_ | refine RO_n 20 (by decide) (by omega) ?_ | refine RO_n 5 (by decide) (by omega) ?_ | refine RO_n 60 (by decide) (by omega) ?_ | refine RO_n 1 (by decide) (by omega) ?_ | refine RO_J (by decide) ?_ | refine RO_c (by assumption) ?_)), trivial⟩
  · skip
    refine zs_tabIn (pc := 6) (tgt := 117) C 9 dX9_count_6 h6 (by decide) rfl (by decide) ?_
    refine zs_aload_n (pc := 117) C dX9_count_117 rfl ?_
    refine zs_getf (pc := 118) C dX9_count_118 w_X9_109 f_10_58 (by decide) ?_
    refine zs_iconst (pc := 121) C dX9_count_121 (by decide) ?_
    refine zs_iald (r := 2088) (pc := 122) C dX9_count_122 a_88 (by decide) (by omega) rfl (r_2088 _) (fun v122 e122 l122 u122 => ?_)
    try simp only [zuI_1, zuI_2, zuJ_1, zuJ_2, zuJ_3, zuP_1, zuP_2, zuP_3, zuC_1, zuC_2, reduceIte, Nat.reduceEqDiff, false_and, and_false, true_and, and_true, and_self, or_true, true_or, or_false, false_or] at e122
    exact zs_iret (pc := 123) C hr hlk dX9_count_123 ⟨by repeat (first | exact zsm_rf | assumption | refine zsm_C (by decide) ?_ | refine zsm_I (by decide) ?_ | refine zsm_J ?_ | refine zsm_c (by assumption) (by decide) ?_), (by with_reducible repeat (first | exact RO_rf | assumption | refine RO_0 (by decide) ?_ | refine RO_n 20 (by decide) (by omega) ?_ | refine RO_n 5 (by decide) (by omega) ?_ | refine RO_n 60 (by decide) (by omega) ?_ | refine RO_n 1 (by decide) (by omega) ?_ | refine RO_J (by decide) ?_ | refine RO_c (by assumption) ?_)), trivial⟩
  · skip
    refine zs_tabIn (pc := 6) (tgt := 124) C 10 dX9_count_6 h6 (by decide) rfl (by decide) ?_
    refine zs_aload_n (pc := 124) C dX9_count_124 rfl ?_
    refine zs_getf (pc := 125) C dX9_count_125 w_X9_112 f_10_59 (by decide) ?_
    refine zs_iconst (pc := 128) C dX9_count_128 (by decide) ?_
    refine zs_iald (r := 2089) (pc := 129) C dX9_count_129 a_89 (by decide) (by omega) rfl (r_2089 _) (fun v129 e129 l129 u129 => ?_)
    try simp only [zuI_1, zuI_2, zuJ_1, zuJ_2, zuJ_3, zuP_1, zuP_2, zuP_3, zuC_1, zuC_2, reduceIte, Nat.reduceEqDiff, false_and, and_false, true_and, and_true, and_self, or_true, true_or, or_false, false_or] at e129
    exact zs_iret (pc := 130) C hr hlk dX9_count_130 ⟨by repeat (first | exact zsm_rf | assumption | refine zsm_C (by decide) ?_ | refine zsm_I (by decide) ?_ | refine zsm_J ?_ | refine zsm_c (by assumption) (by decide) ?_), (by with_reducible repeat (first | exact RO_rf | assumption | refine RO_0 (by decide) ?_ | refine RO_n 20 (by decide) (by omega) ?_ | refine RO_n 5 (by decide) (by omega) ?_ | refine RO_n 60 (by decide) (by omega) ?_ | refine RO_n 1 (by decide) (by omega) ?_ | refine RO_J (by decide) ?_ | refine RO_c (by assumption) ?_)), trivial⟩
  · skip
    refine zs_tabIn (pc := 6) (tgt := 131) C 11 dX9_count_6 h6 (by decide) rfl (by decide) ?_
    refine zs_aload_n (pc := 131) C dX9_count_131 rfl ?_
    refine zs_iconst (pc := 132) C dX9_count_132 (by decide) ?_
    refine zs_iconst (pc := 133) C dX9_count_133 (by decide) ?_
    refine zVip2 (pc := 134) C dX9_count_134 v_X9_468 (c_X9_flourOf hX (by first | omega | (simp only [zuI_1, zuI_2, zuJ_1, zuJ_2, zuJ_3, zuP_1, zuP_2, zuP_3, zuC_1, zuC_2, reduceIte, Nat.reduceEqDiff, false_and, and_false, true_and, and_true, and_self, or_true, true_or, or_false, false_or]; omega))) (by decide) (by decide) ⟨Nat.zero_le _, Nat.zero_le _⟩ (Nat.le_of_ble_eq_true rfl) (fun x134 l134 u134 hp134 => ?_)
    have hq134 := hp134
    try simp only [zuI_1, zuI_2, zuJ_1, zuJ_2, zuJ_3, zuP_1, zuP_2, zuP_3, zuC_1, zuC_2, reduceIte, Nat.reduceEqDiff, false_and, and_false, true_and, and_true, and_self, or_true, true_or, or_false, false_or] at hq134
    exact zs_iret (pc := 137) C hr hlk dX9_count_137 ⟨by repeat (first | exact zsm_rf | assumption | refine zsm_C (by decide) ?_ | refine zsm_I (by decide) ?_ | refine zsm_J ?_ | refine zsm_c (by assumption) (by decide) ?_), (by with_reducible repeat (first | exact RO_rf | assumption | refine RO_0 (by decide) ?_ | refine RO_n 20 (by decide) (by omega) ?_ | refine RO_n 5 (by decide) (by omega) ?_ | refine RO_n 60 (by decide) (by omega) ?_ | refine RO_n 1 (by decide) (by omega) ?_ | refine RO_J (by decide) ?_ | refine RO_c (by assumption) ?_)), trivial⟩
  · skip
    refine zs_tabOut (tgt := 138) (pc := 6) C dX9_count_6 h6 (by decide) ?_
    refine zs_iconst (pc := 138) C dX9_count_138 (by decide) ?_
    exact zs_iret (pc := 139) C hr hlk dX9_count_139 ⟨by repeat (first | exact zsm_rf | assumption | refine zsm_C (by decide) ?_ | refine zsm_I (by decide) ?_ | refine zsm_J ?_ | refine zsm_c (by assumption) (by decide) ?_), (by with_reducible repeat (first | exact RO_rf | assumption | refine RO_0 (by decide) ?_ | refine RO_n 20 (by decide) (by omega) ?_ | refine RO_n 5 (by decide) (by omega) ?_ | refine RO_n 60 (by decide) (by omega) ?_ | refine RO_n 1 (by decide) (by omega) ?_ | refine RO_J (by decide) ?_ | refine RO_c (by assumption) ?_)), trivial⟩

set_option maxHeartbeats 4000000 in
set_option maxRecDepth 100000 in
theorem c_X9_faultO {l : Launch} {Γ : zΓ} {G : zH} {w : Nat} {k : Int} (hX : zXs Γ)  : zMet l Γ yX9_fault cX9_fault 2 (some .int) 0 [zr 10 w, zi k] G (zpi (fun x G' => zsm [1002] G G' ∧ RO G G' ∧ True)) := by
  refine zMet_of RX9 hX (by decide) rfl (Nat.le_of_ble_eq_true rfl) ?_
  intro p e s m args below meth c C hr hlk
  show Z p l e (zrm 0) s m args below meth c Γ 2 0 0 (MQ below (zQc Γ (zpi (fun x G' => zsm [1002] G G' ∧ RO G G' ∧ True))) args s 0 0 (zA Γ)) 0 [some (zr 10 w), some (zi k)] [] G
  refine zs_loc 1 rfl (fun ha1 hb1 => ?_)
  refine zs_aload_n (pc := 0) C dX9_fault_0 rfl ?_
  refine zs_iconst (pc := 1) C dX9_fault_1 (by decide) ?_
  refine zs_puti (r := 1002) (pc := 2) C dX9_fault_2 w_X9_178 f_10_2 rfl (r_1002 0) (by omega) ?_
  refine zs_iload_n (pc := 5) C dX9_fault_5 rfl ?_
  refine zs_if_ne (tgt := 16) (pc := 6) C dX9_fault_6 (by decide) (fun h6 => ?_) (fun h6 => ?_)
  · skip
    refine zs_iload_n (pc := 16) C dX9_fault_16 rfl ?_
    refine zs_iconst (pc := 17) C dX9_fault_17 (by decide) ?_
    refine zs_icmp_ne (tgt := 28) (pc := 18) C dX9_fault_18 (by decide) (fun h18 => ?_) (fun h18 => ?_)
    · skip
      refine zs_iconst (pc := 28) C dX9_fault_28 (by decide) ?_
      exact zs_iret (pc := 29) C hr hlk dX9_fault_29 ⟨by repeat (first | exact zsm_rf | assumption | refine zsm_C (by decide) ?_ | refine zsm_I (by decide) ?_ | refine zsm_J ?_ | refine zsm_c (by assumption) (by decide) ?_), (by with_reducible repeat (first | exact RO_rf | assumption | refine RO_0 (by decide) ?_ | refine RO_n 20 (by decide) (by omega) ?_ | refine RO_n 5 (by decide) (by omega) ?_ | refine RO_n 60 (by decide) (by omega) ?_ | refine RO_n 1 (by decide) (by omega) ?_ | refine RO_J (by decide) ?_ | refine RO_c (by assumption) ?_)), trivial⟩
    · skip
      refine zs_aload_n (pc := 21) C dX9_fault_21 rfl ?_
      refine zs_geti (r := 1005) (pc := 22) C dX9_fault_22 w_X9_16 f_10_5 rfl (r_1005 0) (fun v22 e22 l22 u22 => ?_)
      try simp only [zuI_1, zuI_2, zuJ_1, zuJ_2, zuJ_3, zuP_1, zuP_2, zuP_3, zuC_1, zuC_2, reduceIte, Nat.reduceEqDiff, false_and, and_false, true_and, and_true, and_self, or_true, true_or, or_false, false_or] at e22
      refine zs_goto (tgt := 29) (pc := 25) C dX9_fault_25 (by decide) ?_
      exact zs_iret (pc := 29) C hr hlk dX9_fault_29 ⟨by repeat (first | exact zsm_rf | assumption | refine zsm_C (by decide) ?_ | refine zsm_I (by decide) ?_ | refine zsm_J ?_ | refine zsm_c (by assumption) (by decide) ?_), (by with_reducible repeat (first | exact RO_rf | assumption | refine RO_0 (by decide) ?_ | refine RO_n 20 (by decide) (by omega) ?_ | refine RO_n 5 (by decide) (by omega) ?_ | refine RO_n 60 (by decide) (by omega) ?_ | refine RO_n 1 (by decide) (by omega) ?_ | refine RO_J (by decide) ?_ | refine RO_c (by assumption) ?_)), trivial⟩
  · skip
    refine zs_aload_n (pc := 9) C dX9_fault_9 rfl ?_
    refine zs_geti (r := 1004) (pc := 10) C dX9_fault_10 w_X9_184 f_10_4 rfl (r_1004 0) (fun v10 e10 l10 u10 => ?_)
    try simp only [zuI_1, zuI_2, zuJ_1, zuJ_2, zuJ_3, zuP_1, zuP_2, zuP_3, zuC_1, zuC_2, reduceIte, Nat.reduceEqDiff, false_and, and_false, true_and, and_true, and_self, or_true, true_or, or_false, false_or] at e10
    refine zs_goto (tgt := 29) (pc := 13) C dX9_fault_13 (by decide) ?_
    exact zs_iret (pc := 29) C hr hlk dX9_fault_29 ⟨by repeat (first | exact zsm_rf | assumption | refine zsm_C (by decide) ?_ | refine zsm_I (by decide) ?_ | refine zsm_J ?_ | refine zsm_c (by assumption) (by decide) ?_), (by with_reducible repeat (first | exact RO_rf | assumption | refine RO_0 (by decide) ?_ | refine RO_n 20 (by decide) (by omega) ?_ | refine RO_n 5 (by decide) (by omega) ?_ | refine RO_n 60 (by decide) (by omega) ?_ | refine RO_n 1 (by decide) (by omega) ?_ | refine RO_J (by decide) ?_ | refine RO_c (by assumption) ?_)), trivial⟩

set_option maxHeartbeats 4000000 in
set_option maxRecDepth 100000 in
theorem c_X9_namedO {l : Launch} {Γ : zΓ} {G : zH} {w : Nat} {k a : Int} (hX : zXs Γ)  : zMet l Γ yX9_named cX9_named 3 (some .int) 1 [zr 10 w, zi k, zi a] G (zpi (fun x G' => zsm [1002] G G' ∧ RO G G' ∧ True)) := by
  refine zMet_of RX9 hX (by decide) rfl (Nat.le_of_ble_eq_true rfl) ?_
  intro p e s m args below meth c C hr hlk
  show Z p l e (zrm 1) s m args below meth c Γ 3 0 0 (MQ below (zQc Γ (zpi (fun x G' => zsm [1002] G G' ∧ RO G G' ∧ True))) args s 0 0 (zA Γ)) 0 [some (zr 10 w), some (zi k), some (zi a)] [] G
  refine zs_loc 1 rfl (fun ha1 hb1 => ?_)
  refine zs_loc 2 rfl (fun ha2 hb2 => ?_)
  refine zs_aload_n (pc := 0) C dX9_named_0 rfl ?_
  refine zs_iconst (pc := 1) C dX9_named_1 (by decide) ?_
  refine zs_puti (r := 1002) (pc := 2) C dX9_named_2 w_X9_178 f_10_2 rfl (r_1002 0) (by omega) ?_
  refine zs_iload_n (pc := 5) C dX9_named_5 rfl ?_
  refine zs_name (fun y6 ey6 => ?_)
  rcases (show y6 = 0 ∨ y6 = 1 ∨ y6 = 2 ∨ y6 = 3 ∨ (y6 < 0 ∨ 3 < y6) by omega) with h6 | h6 | h6 | h6 | h6
  · skip
    refine zs_tabIn (pc := 6) (tgt := 36) C 0 dX9_named_6 h6 (by decide) rfl (by decide) ?_
    refine zs_aload_n (pc := 36) C dX9_named_36 rfl ?_
    refine zs_getf (pc := 37) C dX9_named_37 w_X9_27 f_10_24 (by decide) ?_
    refine zs_iconst (pc := 40) C dX9_named_40 (by decide) ?_
    refine zs_aload_n (pc := 41) C dX9_named_41 rfl ?_
    refine zs_geti (r := 1012) (pc := 42) C dX9_named_42 w_X9_258 f_10_12 rfl (r_1012 0) (fun v42 e42 l42 u42 => ?_)
    try simp only [zuI_1, zuI_2, zuJ_1, zuJ_2, zuJ_3, zuP_1, zuP_2, zuP_3, zuC_1, zuC_2, reduceIte, Nat.reduceEqDiff, false_and, and_false, true_and, and_true, and_self, or_true, true_or, or_false, false_or] at e42
    refine zs_iload_n (pc := 45) C dX9_named_45 rfl ?_
    refine zSip4 (pc := 46) C dX9_named_46 s_X9_280 (c_X9_findG hX a_61 (by decide) (by decide) (by omega)) (by decide) ⟨Nat.zero_le _, Nat.zero_le _⟩ (Nat.le_of_ble_eq_true rfl) (fun x46 l46 u46 hp46 => ?_)
    have hq46 := hp46
    try simp only [zuI_1, zuI_2, zuJ_1, zuJ_2, zuJ_3, zuP_1, zuP_2, zuP_3, zuC_1, zuC_2, reduceIte, Nat.reduceEqDiff, false_and, and_false, true_and, and_true, and_self, or_true, true_or, or_false, false_or] at hq46
    exact zs_iret (pc := 49) C hr hlk dX9_named_49 ⟨by repeat (first | exact zsm_rf | assumption | refine zsm_C (by decide) ?_ | refine zsm_I (by decide) ?_ | refine zsm_J ?_ | refine zsm_c (by assumption) (by decide) ?_), (by with_reducible repeat (first | exact RO_rf | assumption | refine RO_0 (by decide) ?_ | refine RO_n 20 (by decide) (by omega) ?_ | refine RO_n 5 (by decide) (by omega) ?_ | refine RO_n 60 (by decide) (by omega) ?_ | refine RO_n 1 (by decide) (by omega) ?_ | refine RO_J (by decide) ?_ | refine RO_c (by assumption) ?_)), trivial⟩
  · skip
    refine zs_tabIn (pc := 6) (tgt := 50) C 1 dX9_named_6 h6 (by decide) rfl (by decide) ?_
    refine zs_aload_n (pc := 50) C dX9_named_50 rfl ?_
    refine zs_getf (pc := 51) C dX9_named_51 w_X9_33 f_10_26 (by decide) ?_
    refine zs_iconst (pc := 54) C dX9_named_54 (by decide) ?_
    refine zs_aload_n (pc := 55) C dX9_named_55 rfl ?_
    refine zs_geti (r := 1013) (pc := 56) C dX9_named_56 w_X9_261 f_10_13 rfl (r_1013 0) (fun v56 e56 l56 u56 => ?_)
    try simp only [zuI_1, zuI_2, zuJ_1, zuJ_2, zuJ_3, zuP_1, zuP_2, zuP_3, zuC_1, zuC_2, reduceIte, Nat.reduceEqDiff, false_and, and_false, true_and, and_true, and_self, or_true, true_or, or_false, false_or] at e56
    refine zs_iload_n (pc := 59) C dX9_named_59 rfl ?_
    refine zSip4 (pc := 60) C dX9_named_60 s_X9_280 (c_X9_findG hX a_63 (by decide) (by decide) (by omega)) (by decide) ⟨Nat.zero_le _, Nat.zero_le _⟩ (Nat.le_of_ble_eq_true rfl) (fun x60 l60 u60 hp60 => ?_)
    have hq60 := hp60
    try simp only [zuI_1, zuI_2, zuJ_1, zuJ_2, zuJ_3, zuP_1, zuP_2, zuP_3, zuC_1, zuC_2, reduceIte, Nat.reduceEqDiff, false_and, and_false, true_and, and_true, and_self, or_true, true_or, or_false, false_or] at hq60
    exact zs_iret (pc := 63) C hr hlk dX9_named_63 ⟨by repeat (first | exact zsm_rf | assumption | refine zsm_C (by decide) ?_ | refine zsm_I (by decide) ?_ | refine zsm_J ?_ | refine zsm_c (by assumption) (by decide) ?_), (by with_reducible repeat (first | exact RO_rf | assumption | refine RO_0 (by decide) ?_ | refine RO_n 20 (by decide) (by omega) ?_ | refine RO_n 5 (by decide) (by omega) ?_ | refine RO_n 60 (by decide) (by omega) ?_ | refine RO_n 1 (by decide) (by omega) ?_ | refine RO_J (by decide) ?_ | refine RO_c (by assumption) ?_)), trivial⟩
  · skip
    refine zs_tabIn (pc := 6) (tgt := 64) C 2 dX9_named_6 h6 (by decide) rfl (by decide) ?_
    refine zs_aload_n (pc := 64) C dX9_named_64 rfl ?_
    refine zs_getf (pc := 65) C dX9_named_65 w_X9_42 f_10_29 (by decide) ?_
    refine zs_iconst (pc := 68) C dX9_named_68 (by decide) ?_
    refine zs_aload_n (pc := 69) C dX9_named_69 rfl ?_
    refine zs_geti (r := 1014) (pc := 70) C dX9_named_70 w_X9_264 f_10_14 rfl (r_1014 0) (fun v70 e70 l70 u70 => ?_)
    try simp only [zuI_1, zuI_2, zuJ_1, zuJ_2, zuJ_3, zuP_1, zuP_2, zuP_3, zuC_1, zuC_2, reduceIte, Nat.reduceEqDiff, false_and, and_false, true_and, and_true, and_self, or_true, true_or, or_false, false_or] at e70
    refine zs_iload_n (pc := 73) C dX9_named_73 rfl ?_
    refine zSip4 (pc := 74) C dX9_named_74 s_X9_280 (c_X9_findG hX a_66 (by decide) (by decide) (by omega)) (by decide) ⟨Nat.zero_le _, Nat.zero_le _⟩ (Nat.le_of_ble_eq_true rfl) (fun x74 l74 u74 hp74 => ?_)
    have hq74 := hp74
    try simp only [zuI_1, zuI_2, zuJ_1, zuJ_2, zuJ_3, zuP_1, zuP_2, zuP_3, zuC_1, zuC_2, reduceIte, Nat.reduceEqDiff, false_and, and_false, true_and, and_true, and_self, or_true, true_or, or_false, false_or] at hq74
    exact zs_iret (pc := 77) C hr hlk dX9_named_77 ⟨by repeat (first | exact zsm_rf | assumption | refine zsm_C (by decide) ?_ | refine zsm_I (by decide) ?_ | refine zsm_J ?_ | refine zsm_c (by assumption) (by decide) ?_), (by with_reducible repeat (first | exact RO_rf | assumption | refine RO_0 (by decide) ?_ | refine RO_n 20 (by decide) (by omega) ?_ | refine RO_n 5 (by decide) (by omega) ?_ | refine RO_n 60 (by decide) (by omega) ?_ | refine RO_n 1 (by decide) (by omega) ?_ | refine RO_J (by decide) ?_ | refine RO_c (by assumption) ?_)), trivial⟩
  · skip
    refine zs_tabIn (pc := 6) (tgt := 78) C 3 dX9_named_6 h6 (by decide) rfl (by decide) ?_
    refine zs_aload_n (pc := 78) C dX9_named_78 rfl ?_
    refine zs_getf (pc := 79) C dX9_named_79 w_X9_54 f_10_33 (by decide) ?_
    refine zs_iconst (pc := 82) C dX9_named_82 (by decide) ?_
    refine zs_aload_n (pc := 83) C dX9_named_83 rfl ?_
    refine zs_geti (r := 1015) (pc := 84) C dX9_named_84 w_X9_267 f_10_15 rfl (r_1015 0) (fun v84 e84 l84 u84 => ?_)
    try simp only [zuI_1, zuI_2, zuJ_1, zuJ_2, zuJ_3, zuP_1, zuP_2, zuP_3, zuC_1, zuC_2, reduceIte, Nat.reduceEqDiff, false_and, and_false, true_and, and_true, and_self, or_true, true_or, or_false, false_or] at e84
    refine zs_iload_n (pc := 87) C dX9_named_87 rfl ?_
    refine zSip4 (pc := 88) C dX9_named_88 s_X9_280 (c_X9_findG hX a_70 (by decide) (by decide) (by omega)) (by decide) ⟨Nat.zero_le _, Nat.zero_le _⟩ (Nat.le_of_ble_eq_true rfl) (fun x88 l88 u88 hp88 => ?_)
    have hq88 := hp88
    try simp only [zuI_1, zuI_2, zuJ_1, zuJ_2, zuJ_3, zuP_1, zuP_2, zuP_3, zuC_1, zuC_2, reduceIte, Nat.reduceEqDiff, false_and, and_false, true_and, and_true, and_self, or_true, true_or, or_false, false_or] at hq88
    exact zs_iret (pc := 91) C hr hlk dX9_named_91 ⟨by repeat (first | exact zsm_rf | assumption | refine zsm_C (by decide) ?_ | refine zsm_I (by decide) ?_ | refine zsm_J ?_ | refine zsm_c (by assumption) (by decide) ?_), (by with_reducible repeat (first | exact RO_rf | assumption | refine RO_0 (by decide) ?_ | refine RO_n 20 (by decide) (by omega) ?_ | refine RO_n 5 (by decide) (by omega) ?_ | refine RO_n 60 (by decide) (by omega) ?_ | refine RO_n 1 (by decide) (by omega) ?_ | refine RO_J (by decide) ?_ | refine RO_c (by assumption) ?_)), trivial⟩
  · skip
    refine zs_tabOut (tgt := 92) (pc := 6) C dX9_named_6 h6 (by decide) ?_
    refine zs_iconst (pc := 92) C dX9_named_92 (by decide) ?_
    exact zs_iret (pc := 93) C hr hlk dX9_named_93 ⟨by repeat (first | exact zsm_rf | assumption | refine zsm_C (by decide) ?_ | refine zsm_I (by decide) ?_ | refine zsm_J ?_ | refine zsm_c (by assumption) (by decide) ?_), (by with_reducible repeat (first | exact RO_rf | assumption | refine RO_0 (by decide) ?_ | refine RO_n 20 (by decide) (by omega) ?_ | refine RO_n 5 (by decide) (by omega) ?_ | refine RO_n 60 (by decide) (by omega) ?_ | refine RO_n 1 (by decide) (by omega) ?_ | refine RO_J (by decide) ?_ | refine RO_c (by assumption) ?_)), trivial⟩

set_option maxHeartbeats 4000000 in
set_option maxRecDepth 100000 in
theorem c_X9_feedFO {l : Launch} {Γ : zΓ} {G : zH} {w : Nat} {a1 a2 a3 a4 a5 : Int} (hX : zXs Γ)  : zMet l Γ yX9_feed cX9_feed 8 (some .int) 0 [zr 10 w, zi a1, zi a2, zi a3, zi a4, zi a5] G (zpi (fun x G' => zsm [1001, 1002, 2057] G G' ∧ RO G G' ∧ ((G.1 1001 w 0 + 20 > 700 → x = -1 ∧ G'.1 1001 w 0 = G.1 1001 w 0 ∧ ∀ i : Nat, G'.1 2057 (Γ.2.1 w 0) i = G.1 2057 (Γ.2.1 w 0) i) ∧ (G.1 1001 w 0 + 20 ≤ 700 → x = G.1 1001 w 0 + 20 ∧ G'.1 1001 w 0 = G.1 1001 w 0 + 20 ∧ ∀ i : Nat, G'.1 2057 (Γ.2.1 w 0) i = if G.1 1001 w 0 ≤ (i : Int) ∧ (i : Int) < G.1 1001 w 0 + 20 then ff a1 a2 a3 a4 a5 ((i : Int) - G.1 1001 w 0) else G.1 2057 (Γ.2.1 w 0) i)))) := by
  refine zMet_of RX9 hX (by decide) rfl (Nat.le_of_ble_eq_true rfl) ?_
  intro p e s m args below meth c C hr hlk
  show Z p l e (zrm 0) s m args below meth c Γ 8 0 0 (MQ below (zQc Γ (zpi (fun x G' => zsm [1001, 1002, 2057] G G' ∧ RO G G' ∧ ((G.1 1001 w 0 + 20 > 700 → x = -1 ∧ G'.1 1001 w 0 = G.1 1001 w 0 ∧ ∀ i : Nat, G'.1 2057 (Γ.2.1 w 0) i = G.1 2057 (Γ.2.1 w 0) i) ∧ (G.1 1001 w 0 + 20 ≤ 700 → x = G.1 1001 w 0 + 20 ∧ G'.1 1001 w 0 = G.1 1001 w 0 + 20 ∧ ∀ i : Nat, G'.1 2057 (Γ.2.1 w 0) i = if G.1 1001 w 0 ≤ (i : Int) ∧ (i : Int) < G.1 1001 w 0 + 20 then ff a1 a2 a3 a4 a5 ((i : Int) - G.1 1001 w 0) else G.1 2057 (Γ.2.1 w 0) i))))) args s 0 0 (zA Γ)) 0 [some (zr 10 w), some (zi a1), some (zi a2), some (zi a3), some (zi a4), some (zi a5), none, none] [] G
  refine zs_loc 1 rfl (fun ha1 hb1 => ?_)
  refine zs_loc 2 rfl (fun ha2 hb2 => ?_)
  refine zs_loc 3 rfl (fun ha3 hb3 => ?_)
  refine zs_loc 4 rfl (fun ha4 hb4 => ?_)
  refine zs_loc 5 rfl (fun ha5 hb5 => ?_)
  refine zs_aload_n (pc := 0) C dX9_feed_0 rfl ?_
  refine zs_iconst (pc := 1) C dX9_feed_1 (by decide) ?_
  refine zs_puti (r := 1002) (pc := 2) C dX9_feed_2 w_X9_178 f_10_2 rfl (r_1002 0) (by omega) ?_
  refine zs_aload_n (pc := 5) C dX9_feed_5 rfl ?_
  refine zs_geti (r := 1001) (pc := 6) C dX9_feed_6 w_X9_181 f_10_1 rfl (r_1001 0) (fun v6 e6 l6 u6 => ?_)
  try simp only [zuI_1, zuI_2, zuJ_1, zuJ_2, zuJ_3, zuP_1, zuP_2, zuP_3, zuC_1, zuC_2, reduceIte, Nat.reduceEqDiff, false_and, and_false, true_and, and_true, and_self, or_true, true_or, or_false, false_or] at e6
  refine zs_bipush (pc := 9) C dX9_feed_9 (by decide) (by decide) ?_
  first | refine zs_iadd (pc := 11) C dX9_feed_11 (by omega) ?_ | refine zs_iaddF (pc := 11) C dX9_feed_11 (fun z11 hz111 hz112 => ?_)
  refine zs_sipush (pc := 12) C dX9_feed_12 (by decide) (by decide) ?_
  refine zs_icmp_le (tgt := 20) (pc := 15) C dX9_feed_15 (by decide) (fun h15 => ?_) (fun h15 => ?_)
  · skip
    refine zs_iconst (pc := 20) C dX9_feed_20 (by decide) ?_
    refine zs_istore (pc := 21) C dX9_feed_21 (by decide) ?_
    dsimp only [zset, zclr, znone]
    have L23 : ∀ (nn : Nat) (x6 : Int) (G1 : zH), (0 ≤ x6 ∧ x6 ≤ 20) → (zsm [1002, 2057] G G1) → (∀ i : Nat, G1.1 2057 (Γ.2.1 w 0) i = if G.1 1001 w 0 ≤ (i : Int) ∧ (i : Int) < G.1 1001 w 0 + x6 then ff a1 a2 a3 a4 a5 ((i : Int) - G.1 1001 w 0) else G.1 2057 (Γ.2.1 w 0) i) → (RO G G1) → (20 - x6).toNat < nn → Z p l e (zrm 0) s m args below meth c Γ 8 0 0 (MQ below (zQc Γ (zpi (fun x G' => zsm [1001, 1002, 2057] G G' ∧ RO G G' ∧ ((G.1 1001 w 0 + 20 > 700 → x = -1 ∧ G'.1 1001 w 0 = G.1 1001 w 0 ∧ ∀ i : Nat, G'.1 2057 (Γ.2.1 w 0) i = G.1 2057 (Γ.2.1 w 0) i) ∧ (G.1 1001 w 0 + 20 ≤ 700 → x = G.1 1001 w 0 + 20 ∧ G'.1 1001 w 0 = G.1 1001 w 0 + 20 ∧ ∀ i : Nat, G'.1 2057 (Γ.2.1 w 0) i = if G.1 1001 w 0 ≤ (i : Int) ∧ (i : Int) < G.1 1001 w 0 + 20 then ff a1 a2 a3 a4 a5 ((i : Int) - G.1 1001 w 0) else G.1 2057 (Γ.2.1 w 0) i))))) args s 0 0 (zA Γ)) 23 [some (zr 10 w), some (zi a1), some (zi a2), some (zi a3), some (zi a4), some (zi a5), some (zi x6), none] [] G1 := by
      intro nn
      induction nn with
      | zero => intro x6 G1 h23_0 h23_1 h23_2 h23_3 hm; exact absurd hm (Nat.not_lt_zero _)
      | succ nn ih23 =>
        intro x6 G1 h23_0 h23_1 h23_2 h23_3 hm23
        have hts := zsm_at h23_1 1001 w 0 (by decide)
        refine zs_iload (pc := 23) C dX9_feed_23 rfl ?_
        refine zs_bipush (pc := 25) C dX9_feed_25 (by decide) (by decide) ?_
        refine zs_icmp_ge (tgt := 113) (pc := 27) C dX9_feed_27 (by decide) (fun h27 => ?_) (fun h27 => ?_)
        · skip
          refine zs_aload_n (pc := 113) C dX9_feed_113 rfl ?_
          refine zs_dupa (pc := 114) C dX9_feed_114 ?_
          refine zs_geti (r := 1001) (pc := 115) C dX9_feed_115 w_X9_181 f_10_1 rfl (r_1001 0) (fun v115 e115 l115 u115 => ?_)
          refine zs_bipush (pc := 118) C dX9_feed_118 (by decide) (by decide) ?_
          first | refine zs_iadd (pc := 120) C dX9_feed_120 (by omega) ?_ | refine zs_iaddF (pc := 120) C dX9_feed_120 (fun z120 hz1201 hz1202 => ?_)
          refine zs_puti (r := 1001) (pc := 121) C dX9_feed_121 w_X9_181 f_10_1 rfl (r_1001 0) (by omega) ?_
          refine zs_aload_n (pc := 124) C dX9_feed_124 rfl ?_
          refine zs_geti (r := 1001) (pc := 125) C dX9_feed_125 w_X9_181 f_10_1 rfl (r_1001 0) (fun v125 e125 l125 u125 => ?_)
          try simp only [zuI_1, zuI_2, zuJ_1, zuJ_2, zuJ_3, zuP_1, zuP_2, zuP_3, zuC_1, zuC_2, reduceIte, Nat.reduceEqDiff, false_and, and_false, true_and, and_true, and_self, or_true, true_or, or_false, false_or] at e125
          exact zs_iret (pc := 128) C hr hlk dX9_feed_128 ⟨by repeat (first | exact zsm_rf | assumption | refine zsm_C (by decide) ?_ | refine zsm_I (by decide) ?_ | refine zsm_J ?_ | refine zsm_c (by assumption) (by decide) ?_), (by with_reducible repeat (first | exact RO_rf | assumption | refine RO_0 (by decide) ?_ | refine RO_n 20 (by decide) (by omega) ?_ | refine RO_n 5 (by decide) (by omega) ?_ | refine RO_n 60 (by decide) (by omega) ?_ | refine RO_n 1 (by decide) (by omega) ?_ | refine RO_J (by decide) ?_ | refine RO_c (by assumption) ?_)), fun h1 => (by first | (exfalso; omega) | exact ⟨rfl, by simp only [zuI_1, zuI_2, zuJ_1, zuJ_2, zuJ_3, zuP_1, zuP_2, zuP_3, zuC_1, zuC_2, reduceIte, Nat.reduceEqDiff, false_and, and_false, true_and, and_true, and_self, or_true, true_or, or_false, false_or], fun i => by simp only [zuI_1, zuI_2, zuJ_1, zuJ_2, zuJ_3, zuP_1, zuP_2, zuP_3, zuC_1, zuC_2, reduceIte, Nat.reduceEqDiff, false_and, and_false, true_and, and_true, and_self, or_true, true_or, or_false, false_or]⟩), fun h1 => (by first | (exfalso; omega) | (refine ⟨by omega, by simp only [zuI_1, zuI_2, zuJ_1, zuJ_2, zuJ_3, zuP_1, zuP_2, zuP_3, zuC_1, zuC_2, reduceIte, Nat.reduceEqDiff, false_and, and_false, true_and, and_true, and_self, or_true, true_or, or_false, false_or]; omega, fun i => ?_⟩; simp only [zuI_1, zuI_2, zuJ_1, zuJ_2, zuJ_3, zuP_1, zuP_2, zuP_3, zuC_1, zuC_2, reduceIte, Nat.reduceEqDiff, false_and, and_false, true_and, and_true, and_self, or_true, true_or, or_false, false_or]; have h9 := h23_2 i; rw [show G.1 1001 w 0 + x6 = G.1 1001 w 0 + 20 by omega] at h9; exact h9))⟩
        · skip
          refine zs_iload (pc := 30) C dX9_feed_30 rfl ?_
          refine zs_iconst (pc := 32) C dX9_feed_32 (by decide) ?_
          refine zs_icmp_ge (tgt := 40) (pc := 33) C dX9_feed_33 (by decide) (fun h33 => ?_) (fun h33 => ?_)
          · skip
            refine zs_iload (pc := 40) C dX9_feed_40 rfl ?_
            refine zs_bipush (pc := 42) C dX9_feed_42 (by decide) (by decide) ?_
            refine zs_icmp_ge (tgt := 51) (pc := 44) C dX9_feed_44 (by decide) (fun h44 => ?_) (fun h44 => ?_)
            · skip
              refine zs_iload (pc := 51) C dX9_feed_51 rfl ?_
              refine zs_bipush (pc := 53) C dX9_feed_53 (by decide) (by decide) ?_
              refine zs_icmp_ge (tgt := 62) (pc := 55) C dX9_feed_55 (by decide) (fun h55 => ?_) (fun h55 => ?_)
              · skip
                refine zs_iload (pc := 62) C dX9_feed_62 rfl ?_
                refine zs_bipush (pc := 64) C dX9_feed_64 (by decide) (by decide) ?_
                refine zs_icmp_ge (tgt := 74) (pc := 66) C dX9_feed_66 (by decide) (fun h66 => ?_) (fun h66 => ?_)
                · skip
                  refine zs_iload (pc := 74) C dX9_feed_74 rfl ?_
                  refine zs_istore (pc := 76) C dX9_feed_76 (by decide) ?_
                  dsimp only [zset, zclr, znone]
                  refine zs_aload_n (pc := 78) C dX9_feed_78 rfl ?_
                  refine zs_getf (pc := 79) C dX9_feed_79 w_X9_7 f_10_0 (by decide) ?_
                  refine zs_aload_n (pc := 82) C dX9_feed_82 rfl ?_
                  refine zs_geti (r := 1001) (pc := 83) C dX9_feed_83 w_X9_181 f_10_1 rfl (r_1001 0) (fun v83 e83 l83 u83 => ?_)
                  refine zs_iload (pc := 86) C dX9_feed_86 rfl ?_
                  first | refine zs_iadd (pc := 88) C dX9_feed_88 (by omega) ?_ | refine zs_iaddF (pc := 88) C dX9_feed_88 (fun z88 hz881 hz882 => ?_)
                  refine zs_iload (pc := 89) C dX9_feed_89 rfl ?_
                  refine zs_bipush (pc := 91) C dX9_feed_91 (by decide) (by decide) ?_
                  refine zs_bipush (pc := 93) C dX9_feed_93 (by decide) (by decide) ?_
                  refine zs_iload (pc := 95) C dX9_feed_95 rfl ?_
                  refine zs_iconst (pc := 97) C dX9_feed_97 (by decide) ?_
                  first | refine zs_irem (pc := 98) C dX9_feed_98 (by omega) (by omega) (fun hz981 hz982 => ?_) | refine zs_iremF (pc := 98) C dX9_feed_98 (by omega) (fun z98 hz981 hz982 => ?_)
                  first | refine zs_imul (pc := 99) C dX9_feed_99 (by omega) ?_ | refine zs_imulF (pc := 99) C dX9_feed_99 (fun z99 hz991 hz992 => ?_)
                  first | refine zs_isub (pc := 100) C dX9_feed_100 (by omega) ?_ | refine zs_isubF (pc := 100) C dX9_feed_100 (fun z100 hz1001 hz1002 => ?_)
                  refine zs_ishrX (pc := 101) C dX9_feed_101 (fun z101 ez101 hz1011 hz1012 => ?_)
                  refine zs_sipush (pc := 102) C dX9_feed_102 (by decide) (by decide) ?_
                  refine zs_iandX (pc := 105) C dX9_feed_105 (fun z105 ez105 hz1051 hz1052 => ?_)
                  have hby : 0 ≤ z105 ∧ z105 ≤ 255 := by rw [ez105, ez101]; exact byt_in _ _
                  refine zs_iast (r := 2057) (pc := 106) C dX9_feed_106 a_57 (by decide) (by omega) rfl (r_2057 _) (by omega) ?_
                  first | refine zs_iinc (pc := 107) C dX9_feed_107 rfl (by decide) (by omega) ?_ | refine zs_iincF (pc := 107) C dX9_feed_107 rfl (by decide) (fun z107 hz1071 hz1072 => ?_)
                  dsimp only [zset, zclr, znone]
                  refine zs_goto (tgt := 23) (pc := 110) C dX9_feed_110 (by decide) ?_
                  exact zs_wk (ih23 _ _ (by first | omega | (simp only [zuI_1, zuI_2, zuJ_1, zuJ_2, zuJ_3, zuP_1, zuP_2, zuP_3, zuC_1, zuC_2, reduceIte, Nat.reduceEqDiff, false_and, and_false, true_and, and_true, and_self, or_true, true_or, or_false, false_or]; omega)) (by repeat (first | exact zsm_rf | assumption | refine zsm_C (by decide) ?_ | refine zsm_I (by decide) ?_ | refine zsm_J ?_ | refine zsm_c (by assumption) (by decide) ?_)) (by simp only [zuI_1, zuI_2, zuJ_1, zuJ_2, zuJ_3, zuP_1, zuP_2, zuP_3, zuC_1, zuC_2, reduceIte, Nat.reduceEqDiff, false_and, and_false, true_and, and_true, and_self, or_true, true_or, or_false, false_or, ← Int.add_assoc]; exact fill_step h23_2 (by omega) (by omega) (by unfold ff; (repeat' split) <;> first | (exfalso; omega) | (rw [ez105, ez101]; unfold byt; congr 2; omega))) (by with_reducible repeat (first | exact RO_rf | assumption | refine RO_0 (by decide) ?_ | refine RO_n 20 (by decide) (by omega) ?_ | refine RO_n 5 (by decide) (by omega) ?_ | refine RO_n 60 (by decide) (by omega) ?_ | refine RO_n 1 (by decide) (by omega) ?_ | refine RO_J (by decide) ?_ | refine RO_c (by assumption) ?_)) (by first | omega | (simp only [zuI_1, zuI_2, zuJ_1, zuJ_2, zuJ_3, zuP_1, zuP_2, zuP_3, zuC_1, zuC_2, reduceIte, Nat.reduceEqDiff, false_and, and_false, true_and, and_true, and_self, or_true, true_or, or_false, false_or]; omega))) (zwk_s rfl (zwk_s rfl (zwk_s rfl (zwk_s rfl (zwk_s rfl (zwk_s rfl (zwk_s rfl (zwk_n zwk_0))))))))
                · skip
                  refine zs_iload (pc := 69) C dX9_feed_69 rfl ?_
                  refine zs_goto (tgt := 76) (pc := 71) C dX9_feed_71 (by decide) ?_
                  refine zs_istore (pc := 76) C dX9_feed_76 (by decide) ?_
                  dsimp only [zset, zclr, znone]
                  refine zs_aload_n (pc := 78) C dX9_feed_78 rfl ?_
                  refine zs_getf (pc := 79) C dX9_feed_79 w_X9_7 f_10_0 (by decide) ?_
                  refine zs_aload_n (pc := 82) C dX9_feed_82 rfl ?_
                  refine zs_geti (r := 1001) (pc := 83) C dX9_feed_83 w_X9_181 f_10_1 rfl (r_1001 0) (fun v83 e83 l83 u83 => ?_)
                  refine zs_iload (pc := 86) C dX9_feed_86 rfl ?_
                  first | refine zs_iadd (pc := 88) C dX9_feed_88 (by omega) ?_ | refine zs_iaddF (pc := 88) C dX9_feed_88 (fun z88 hz881 hz882 => ?_)
                  refine zs_iload (pc := 89) C dX9_feed_89 rfl ?_
                  refine zs_bipush (pc := 91) C dX9_feed_91 (by decide) (by decide) ?_
                  refine zs_bipush (pc := 93) C dX9_feed_93 (by decide) (by decide) ?_
                  refine zs_iload (pc := 95) C dX9_feed_95 rfl ?_
                  refine zs_iconst (pc := 97) C dX9_feed_97 (by decide) ?_
                  first | refine zs_irem (pc := 98) C dX9_feed_98 (by omega) (by omega) (fun hz981 hz982 => ?_) | refine zs_iremF (pc := 98) C dX9_feed_98 (by omega) (fun z98 hz981 hz982 => ?_)
                  first | refine zs_imul (pc := 99) C dX9_feed_99 (by omega) ?_ | refine zs_imulF (pc := 99) C dX9_feed_99 (fun z99 hz991 hz992 => ?_)
                  first | refine zs_isub (pc := 100) C dX9_feed_100 (by omega) ?_ | refine zs_isubF (pc := 100) C dX9_feed_100 (fun z100 hz1001 hz1002 => ?_)
                  refine zs_ishrX (pc := 101) C dX9_feed_101 (fun z101 ez101 hz1011 hz1012 => ?_)
                  refine zs_sipush (pc := 102) C dX9_feed_102 (by decide) (by decide) ?_
                  refine zs_iandX (pc := 105) C dX9_feed_105 (fun z105 ez105 hz1051 hz1052 => ?_)
                  have hby : 0 ≤ z105 ∧ z105 ≤ 255 := by rw [ez105, ez101]; exact byt_in _ _
                  refine zs_iast (r := 2057) (pc := 106) C dX9_feed_106 a_57 (by decide) (by omega) rfl (r_2057 _) (by omega) ?_
                  first | refine zs_iinc (pc := 107) C dX9_feed_107 rfl (by decide) (by omega) ?_ | refine zs_iincF (pc := 107) C dX9_feed_107 rfl (by decide) (fun z107 hz1071 hz1072 => ?_)
                  dsimp only [zset, zclr, znone]
                  refine zs_goto (tgt := 23) (pc := 110) C dX9_feed_110 (by decide) ?_
                  exact zs_wk (ih23 _ _ (by first | omega | (simp only [zuI_1, zuI_2, zuJ_1, zuJ_2, zuJ_3, zuP_1, zuP_2, zuP_3, zuC_1, zuC_2, reduceIte, Nat.reduceEqDiff, false_and, and_false, true_and, and_true, and_self, or_true, true_or, or_false, false_or]; omega)) (by repeat (first | exact zsm_rf | assumption | refine zsm_C (by decide) ?_ | refine zsm_I (by decide) ?_ | refine zsm_J ?_ | refine zsm_c (by assumption) (by decide) ?_)) (by simp only [zuI_1, zuI_2, zuJ_1, zuJ_2, zuJ_3, zuP_1, zuP_2, zuP_3, zuC_1, zuC_2, reduceIte, Nat.reduceEqDiff, false_and, and_false, true_and, and_true, and_self, or_true, true_or, or_false, false_or, ← Int.add_assoc]; exact fill_step h23_2 (by omega) (by omega) (by unfold ff; (repeat' split) <;> first | (exfalso; omega) | (rw [ez105, ez101]; unfold byt; congr 2; omega))) (by with_reducible repeat (first | exact RO_rf | assumption | refine RO_0 (by decide) ?_ | refine RO_n 20 (by decide) (by omega) ?_ | refine RO_n 5 (by decide) (by omega) ?_ | refine RO_n 60 (by decide) (by omega) ?_ | refine RO_n 1 (by decide) (by omega) ?_ | refine RO_J (by decide) ?_ | refine RO_c (by assumption) ?_)) (by first | omega | (simp only [zuI_1, zuI_2, zuJ_1, zuJ_2, zuJ_3, zuP_1, zuP_2, zuP_3, zuC_1, zuC_2, reduceIte, Nat.reduceEqDiff, false_and, and_false, true_and, and_true, and_self, or_true, true_or, or_false, false_or]; omega))) (zwk_s rfl (zwk_s rfl (zwk_s rfl (zwk_s rfl (zwk_s rfl (zwk_s rfl (zwk_s rfl (zwk_n zwk_0))))))))
              · skip
                refine zs_iload_n (pc := 58) C dX9_feed_58 rfl ?_
                refine zs_goto (tgt := 76) (pc := 59) C dX9_feed_59 (by decide) ?_
                refine zs_istore (pc := 76) C dX9_feed_76 (by decide) ?_
                dsimp only [zset, zclr, znone]
                refine zs_aload_n (pc := 78) C dX9_feed_78 rfl ?_
                refine zs_getf (pc := 79) C dX9_feed_79 w_X9_7 f_10_0 (by decide) ?_
                refine zs_aload_n (pc := 82) C dX9_feed_82 rfl ?_
                refine zs_geti (r := 1001) (pc := 83) C dX9_feed_83 w_X9_181 f_10_1 rfl (r_1001 0) (fun v83 e83 l83 u83 => ?_)
                refine zs_iload (pc := 86) C dX9_feed_86 rfl ?_
                first | refine zs_iadd (pc := 88) C dX9_feed_88 (by omega) ?_ | refine zs_iaddF (pc := 88) C dX9_feed_88 (fun z88 hz881 hz882 => ?_)
                refine zs_iload (pc := 89) C dX9_feed_89 rfl ?_
                refine zs_bipush (pc := 91) C dX9_feed_91 (by decide) (by decide) ?_
                refine zs_bipush (pc := 93) C dX9_feed_93 (by decide) (by decide) ?_
                refine zs_iload (pc := 95) C dX9_feed_95 rfl ?_
                refine zs_iconst (pc := 97) C dX9_feed_97 (by decide) ?_
                first | refine zs_irem (pc := 98) C dX9_feed_98 (by omega) (by omega) (fun hz981 hz982 => ?_) | refine zs_iremF (pc := 98) C dX9_feed_98 (by omega) (fun z98 hz981 hz982 => ?_)
                first | refine zs_imul (pc := 99) C dX9_feed_99 (by omega) ?_ | refine zs_imulF (pc := 99) C dX9_feed_99 (fun z99 hz991 hz992 => ?_)
                first | refine zs_isub (pc := 100) C dX9_feed_100 (by omega) ?_ | refine zs_isubF (pc := 100) C dX9_feed_100 (fun z100 hz1001 hz1002 => ?_)
                refine zs_ishrX (pc := 101) C dX9_feed_101 (fun z101 ez101 hz1011 hz1012 => ?_)
                refine zs_sipush (pc := 102) C dX9_feed_102 (by decide) (by decide) ?_
                refine zs_iandX (pc := 105) C dX9_feed_105 (fun z105 ez105 hz1051 hz1052 => ?_)
                have hby : 0 ≤ z105 ∧ z105 ≤ 255 := by rw [ez105, ez101]; exact byt_in _ _
                refine zs_iast (r := 2057) (pc := 106) C dX9_feed_106 a_57 (by decide) (by omega) rfl (r_2057 _) (by omega) ?_
                first | refine zs_iinc (pc := 107) C dX9_feed_107 rfl (by decide) (by omega) ?_ | refine zs_iincF (pc := 107) C dX9_feed_107 rfl (by decide) (fun z107 hz1071 hz1072 => ?_)
                dsimp only [zset, zclr, znone]
                refine zs_goto (tgt := 23) (pc := 110) C dX9_feed_110 (by decide) ?_
                exact zs_wk (ih23 _ _ (by first | omega | (simp only [zuI_1, zuI_2, zuJ_1, zuJ_2, zuJ_3, zuP_1, zuP_2, zuP_3, zuC_1, zuC_2, reduceIte, Nat.reduceEqDiff, false_and, and_false, true_and, and_true, and_self, or_true, true_or, or_false, false_or]; omega)) (by repeat (first | exact zsm_rf | assumption | refine zsm_C (by decide) ?_ | refine zsm_I (by decide) ?_ | refine zsm_J ?_ | refine zsm_c (by assumption) (by decide) ?_)) (by simp only [zuI_1, zuI_2, zuJ_1, zuJ_2, zuJ_3, zuP_1, zuP_2, zuP_3, zuC_1, zuC_2, reduceIte, Nat.reduceEqDiff, false_and, and_false, true_and, and_true, and_self, or_true, true_or, or_false, false_or, ← Int.add_assoc]; exact fill_step h23_2 (by omega) (by omega) (by unfold ff; (repeat' split) <;> first | (exfalso; omega) | (rw [ez105, ez101]; unfold byt; congr 2; omega))) (by with_reducible repeat (first | exact RO_rf | assumption | refine RO_0 (by decide) ?_ | refine RO_n 20 (by decide) (by omega) ?_ | refine RO_n 5 (by decide) (by omega) ?_ | refine RO_n 60 (by decide) (by omega) ?_ | refine RO_n 1 (by decide) (by omega) ?_ | refine RO_J (by decide) ?_ | refine RO_c (by assumption) ?_)) (by first | omega | (simp only [zuI_1, zuI_2, zuJ_1, zuJ_2, zuJ_3, zuP_1, zuP_2, zuP_3, zuC_1, zuC_2, reduceIte, Nat.reduceEqDiff, false_and, and_false, true_and, and_true, and_self, or_true, true_or, or_false, false_or]; omega))) (zwk_s rfl (zwk_s rfl (zwk_s rfl (zwk_s rfl (zwk_s rfl (zwk_s rfl (zwk_s rfl (zwk_n zwk_0))))))))
            · skip
              refine zs_iload_n (pc := 47) C dX9_feed_47 rfl ?_
              refine zs_goto (tgt := 76) (pc := 48) C dX9_feed_48 (by decide) ?_
              refine zs_istore (pc := 76) C dX9_feed_76 (by decide) ?_
              dsimp only [zset, zclr, znone]
              refine zs_aload_n (pc := 78) C dX9_feed_78 rfl ?_
              refine zs_getf (pc := 79) C dX9_feed_79 w_X9_7 f_10_0 (by decide) ?_
              refine zs_aload_n (pc := 82) C dX9_feed_82 rfl ?_
              refine zs_geti (r := 1001) (pc := 83) C dX9_feed_83 w_X9_181 f_10_1 rfl (r_1001 0) (fun v83 e83 l83 u83 => ?_)
              refine zs_iload (pc := 86) C dX9_feed_86 rfl ?_
              first | refine zs_iadd (pc := 88) C dX9_feed_88 (by omega) ?_ | refine zs_iaddF (pc := 88) C dX9_feed_88 (fun z88 hz881 hz882 => ?_)
              refine zs_iload (pc := 89) C dX9_feed_89 rfl ?_
              refine zs_bipush (pc := 91) C dX9_feed_91 (by decide) (by decide) ?_
              refine zs_bipush (pc := 93) C dX9_feed_93 (by decide) (by decide) ?_
              refine zs_iload (pc := 95) C dX9_feed_95 rfl ?_
              refine zs_iconst (pc := 97) C dX9_feed_97 (by decide) ?_
              first | refine zs_irem (pc := 98) C dX9_feed_98 (by omega) (by omega) (fun hz981 hz982 => ?_) | refine zs_iremF (pc := 98) C dX9_feed_98 (by omega) (fun z98 hz981 hz982 => ?_)
              first | refine zs_imul (pc := 99) C dX9_feed_99 (by omega) ?_ | refine zs_imulF (pc := 99) C dX9_feed_99 (fun z99 hz991 hz992 => ?_)
              first | refine zs_isub (pc := 100) C dX9_feed_100 (by omega) ?_ | refine zs_isubF (pc := 100) C dX9_feed_100 (fun z100 hz1001 hz1002 => ?_)
              refine zs_ishrX (pc := 101) C dX9_feed_101 (fun z101 ez101 hz1011 hz1012 => ?_)
              refine zs_sipush (pc := 102) C dX9_feed_102 (by decide) (by decide) ?_
              refine zs_iandX (pc := 105) C dX9_feed_105 (fun z105 ez105 hz1051 hz1052 => ?_)
              have hby : 0 ≤ z105 ∧ z105 ≤ 255 := by rw [ez105, ez101]; exact byt_in _ _
              refine zs_iast (r := 2057) (pc := 106) C dX9_feed_106 a_57 (by decide) (by omega) rfl (r_2057 _) (by omega) ?_
              first | refine zs_iinc (pc := 107) C dX9_feed_107 rfl (by decide) (by omega) ?_ | refine zs_iincF (pc := 107) C dX9_feed_107 rfl (by decide) (fun z107 hz1071 hz1072 => ?_)
              dsimp only [zset, zclr, znone]
              refine zs_goto (tgt := 23) (pc := 110) C dX9_feed_110 (by decide) ?_
              exact zs_wk (ih23 _ _ (by first | omega | (simp only [zuI_1, zuI_2, zuJ_1, zuJ_2, zuJ_3, zuP_1, zuP_2, zuP_3, zuC_1, zuC_2, reduceIte, Nat.reduceEqDiff, false_and, and_false, true_and, and_true, and_self, or_true, true_or, or_false, false_or]; omega)) (by repeat (first | exact zsm_rf | assumption | refine zsm_C (by decide) ?_ | refine zsm_I (by decide) ?_ | refine zsm_J ?_ | refine zsm_c (by assumption) (by decide) ?_)) (by simp only [zuI_1, zuI_2, zuJ_1, zuJ_2, zuJ_3, zuP_1, zuP_2, zuP_3, zuC_1, zuC_2, reduceIte, Nat.reduceEqDiff, false_and, and_false, true_and, and_true, and_self, or_true, true_or, or_false, false_or, ← Int.add_assoc]; exact fill_step h23_2 (by omega) (by omega) (by unfold ff; (repeat' split) <;> first | (exfalso; omega) | (rw [ez105, ez101]; unfold byt; congr 2; omega))) (by with_reducible repeat (first | exact RO_rf | assumption | refine RO_0 (by decide) ?_ | refine RO_n 20 (by decide) (by omega) ?_ | refine RO_n 5 (by decide) (by omega) ?_ | refine RO_n 60 (by decide) (by omega) ?_ | refine RO_n 1 (by decide) (by omega) ?_ | refine RO_J (by decide) ?_ | refine RO_c (by assumption) ?_)) (by first | omega | (simp only [zuI_1, zuI_2, zuJ_1, zuJ_2, zuJ_3, zuP_1, zuP_2, zuP_3, zuC_1, zuC_2, reduceIte, Nat.reduceEqDiff, false_and, and_false, true_and, and_true, and_self, or_true, true_or, or_false, false_or]; omega))) (zwk_s rfl (zwk_s rfl (zwk_s rfl (zwk_s rfl (zwk_s rfl (zwk_s rfl (zwk_s rfl (zwk_n zwk_0))))))))
          · skip
            refine zs_iload_n (pc := 36) C dX9_feed_36 rfl ?_
            refine zs_goto (tgt := 76) (pc := 37) C dX9_feed_37 (by decide) ?_
            refine zs_istore (pc := 76) C dX9_feed_76 (by decide) ?_
            dsimp only [zset, zclr, znone]
            refine zs_aload_n (pc := 78) C dX9_feed_78 rfl ?_
            refine zs_getf (pc := 79) C dX9_feed_79 w_X9_7 f_10_0 (by decide) ?_
            refine zs_aload_n (pc := 82) C dX9_feed_82 rfl ?_
            refine zs_geti (r := 1001) (pc := 83) C dX9_feed_83 w_X9_181 f_10_1 rfl (r_1001 0) (fun v83 e83 l83 u83 => ?_)
            refine zs_iload (pc := 86) C dX9_feed_86 rfl ?_
            first | refine zs_iadd (pc := 88) C dX9_feed_88 (by omega) ?_ | refine zs_iaddF (pc := 88) C dX9_feed_88 (fun z88 hz881 hz882 => ?_)
            refine zs_iload (pc := 89) C dX9_feed_89 rfl ?_
            refine zs_bipush (pc := 91) C dX9_feed_91 (by decide) (by decide) ?_
            refine zs_bipush (pc := 93) C dX9_feed_93 (by decide) (by decide) ?_
            refine zs_iload (pc := 95) C dX9_feed_95 rfl ?_
            refine zs_iconst (pc := 97) C dX9_feed_97 (by decide) ?_
            first | refine zs_irem (pc := 98) C dX9_feed_98 (by omega) (by omega) (fun hz981 hz982 => ?_) | refine zs_iremF (pc := 98) C dX9_feed_98 (by omega) (fun z98 hz981 hz982 => ?_)
            first | refine zs_imul (pc := 99) C dX9_feed_99 (by omega) ?_ | refine zs_imulF (pc := 99) C dX9_feed_99 (fun z99 hz991 hz992 => ?_)
            first | refine zs_isub (pc := 100) C dX9_feed_100 (by omega) ?_ | refine zs_isubF (pc := 100) C dX9_feed_100 (fun z100 hz1001 hz1002 => ?_)
            refine zs_ishrX (pc := 101) C dX9_feed_101 (fun z101 ez101 hz1011 hz1012 => ?_)
            refine zs_sipush (pc := 102) C dX9_feed_102 (by decide) (by decide) ?_
            refine zs_iandX (pc := 105) C dX9_feed_105 (fun z105 ez105 hz1051 hz1052 => ?_)
            have hby : 0 ≤ z105 ∧ z105 ≤ 255 := by rw [ez105, ez101]; exact byt_in _ _
            refine zs_iast (r := 2057) (pc := 106) C dX9_feed_106 a_57 (by decide) (by omega) rfl (r_2057 _) (by omega) ?_
            first | refine zs_iinc (pc := 107) C dX9_feed_107 rfl (by decide) (by omega) ?_ | refine zs_iincF (pc := 107) C dX9_feed_107 rfl (by decide) (fun z107 hz1071 hz1072 => ?_)
            dsimp only [zset, zclr, znone]
            refine zs_goto (tgt := 23) (pc := 110) C dX9_feed_110 (by decide) ?_
            exact zs_wk (ih23 _ _ (by first | omega | (simp only [zuI_1, zuI_2, zuJ_1, zuJ_2, zuJ_3, zuP_1, zuP_2, zuP_3, zuC_1, zuC_2, reduceIte, Nat.reduceEqDiff, false_and, and_false, true_and, and_true, and_self, or_true, true_or, or_false, false_or]; omega)) (by repeat (first | exact zsm_rf | assumption | refine zsm_C (by decide) ?_ | refine zsm_I (by decide) ?_ | refine zsm_J ?_ | refine zsm_c (by assumption) (by decide) ?_)) (by simp only [zuI_1, zuI_2, zuJ_1, zuJ_2, zuJ_3, zuP_1, zuP_2, zuP_3, zuC_1, zuC_2, reduceIte, Nat.reduceEqDiff, false_and, and_false, true_and, and_true, and_self, or_true, true_or, or_false, false_or, ← Int.add_assoc]; exact fill_step h23_2 (by omega) (by omega) (by unfold ff; (repeat' split) <;> first | (exfalso; omega) | (rw [ez105, ez101]; unfold byt; congr 2; omega))) (by with_reducible repeat (first | exact RO_rf | assumption | refine RO_0 (by decide) ?_ | refine RO_n 20 (by decide) (by omega) ?_ | refine RO_n 5 (by decide) (by omega) ?_ | refine RO_n 60 (by decide) (by omega) ?_ | refine RO_n 1 (by decide) (by omega) ?_ | refine RO_J (by decide) ?_ | refine RO_c (by assumption) ?_)) (by first | omega | (simp only [zuI_1, zuI_2, zuJ_1, zuJ_2, zuJ_3, zuP_1, zuP_2, zuP_3, zuC_1, zuC_2, reduceIte, Nat.reduceEqDiff, false_and, and_false, true_and, and_true, and_self, or_true, true_or, or_false, false_or]; omega))) (zwk_s rfl (zwk_s rfl (zwk_s rfl (zwk_s rfl (zwk_s rfl (zwk_s rfl (zwk_s rfl (zwk_n zwk_0))))))))
    exact zs_wk (L23 _ _ _ (by first | omega | (simp only [zuI_1, zuI_2, zuJ_1, zuJ_2, zuJ_3, zuP_1, zuP_2, zuP_3, zuC_1, zuC_2, reduceIte, Nat.reduceEqDiff, false_and, and_false, true_and, and_true, and_self, or_true, true_or, or_false, false_or]; omega)) (by repeat (first | exact zsm_rf | assumption | refine zsm_C (by decide) ?_ | refine zsm_I (by decide) ?_ | refine zsm_J ?_ | refine zsm_c (by assumption) (by decide) ?_)) (fun i => by rw [if_neg (by omega)]; try simp only [zuI_1, zuI_2, zuJ_1, zuJ_2, zuJ_3, zuP_1, zuP_2, zuP_3, zuC_1, zuC_2, reduceIte, Nat.reduceEqDiff, false_and, and_false, true_and, and_true, and_self, or_true, true_or, or_false, false_or]) (by with_reducible repeat (first | exact RO_rf | assumption | refine RO_0 (by decide) ?_ | refine RO_n 20 (by decide) (by omega) ?_ | refine RO_n 5 (by decide) (by omega) ?_ | refine RO_n 60 (by decide) (by omega) ?_ | refine RO_n 1 (by decide) (by omega) ?_ | refine RO_J (by decide) ?_ | refine RO_c (by assumption) ?_)) (Nat.lt_succ_self _)) (zwk_s rfl (zwk_s rfl (zwk_s rfl (zwk_s rfl (zwk_s rfl (zwk_s rfl (zwk_s rfl (zwk_n zwk_0))))))))
  · skip
    refine zs_iconst (pc := 18) C dX9_feed_18 (by decide) ?_
    exact zs_iret (pc := 19) C hr hlk dX9_feed_19 ⟨by repeat (first | exact zsm_rf | assumption | refine zsm_C (by decide) ?_ | refine zsm_I (by decide) ?_ | refine zsm_J ?_ | refine zsm_c (by assumption) (by decide) ?_), (by with_reducible repeat (first | exact RO_rf | assumption | refine RO_0 (by decide) ?_ | refine RO_n 20 (by decide) (by omega) ?_ | refine RO_n 5 (by decide) (by omega) ?_ | refine RO_n 60 (by decide) (by omega) ?_ | refine RO_n 1 (by decide) (by omega) ?_ | refine RO_J (by decide) ?_ | refine RO_c (by assumption) ?_)), fun h1 => (by first | (exfalso; omega) | exact ⟨rfl, by simp only [zuI_1, zuI_2, zuJ_1, zuJ_2, zuJ_3, zuP_1, zuP_2, zuP_3, zuC_1, zuC_2, reduceIte, Nat.reduceEqDiff, false_and, and_false, true_and, and_true, and_self, or_true, true_or, or_false, false_or], fun i => by simp only [zuI_1, zuI_2, zuJ_1, zuJ_2, zuJ_3, zuP_1, zuP_2, zuP_3, zuC_1, zuC_2, reduceIte, Nat.reduceEqDiff, false_and, and_false, true_and, and_true, and_self, or_true, true_or, or_false, false_or]⟩), fun h1 => (by first | (exfalso; omega) | (refine ⟨by omega, by simp only [zuI_1, zuI_2, zuJ_1, zuJ_2, zuJ_3, zuP_1, zuP_2, zuP_3, zuC_1, zuC_2, reduceIte, Nat.reduceEqDiff, false_and, and_false, true_and, and_true, and_self, or_true, true_or, or_false, false_or]; omega, fun i => ?_⟩; simp only [zuI_1, zuI_2, zuJ_1, zuJ_2, zuJ_3, zuP_1, zuP_2, zuP_3, zuC_1, zuC_2, reduceIte, Nat.reduceEqDiff, false_and, and_false, true_and, and_true, and_self, or_true, true_or, or_false, false_or]; have h9 := h23_2 i; rw [show G.1 1001 w 0 + x6 = G.1 1001 w 0 + 20 by omega] at h9; exact h9))⟩
