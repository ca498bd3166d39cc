set_option maxHeartbeats 4000000 in
set_option maxRecDepth 100000 in
theorem c_X6_learn {l : Launch} {Γ : zΓ} {G : zH} {w t a v n : Nat} {k : Int} {f : Nat → Int32} (hX : zXs Γ) (hk : 0 ≤ k) : zMt l Γ (fun U => jStr (zA Γ) a v n f U U.heap) yX6_learn cX6_learn 7 (some .int) 4 [zr 7 w, zr t a, zi k] G (zpi (fun x G' => zsm [2044] G G' ∧ (0 ≤ x))) := by
  refine zMt_of RX6 hX (by decide) rfl (Nat.le_of_ble_eq_true rfl) ?_
  intro p e s m args below meth c C hr hlk hJ
  show Z p l e (zrm 4) s m args below meth c Γ 7 0 0 (MQ below (zQc Γ (zpi (fun x G' => zsm [2044] G G' ∧ (0 ≤ x)))) args s 0 0 (zA Γ)) 0 [some (zr 7 w), some (zr t a), some (zi k), none, none, none, none] [] G
  refine zs_loc 2 rfl (fun ha2 hb2 => ?_)
  have hn2 : n < 2147483648 := hJ.2.2.2.2.1
  refine zs_iload_n (pc := 0) C dX6_learn_0 rfl ?_
  refine zs_istore_n (pc := 1) C dX6_learn_1 (by decide) ?_
  dsimp only [zset, zclr, znone]
  refine zs_iconst (pc := 2) C dX6_learn_2 (by decide) ?_
  refine zs_istore (pc := 3) C dX6_learn_3 (by decide) ?_
  dsimp only [zset, zclr, znone]
  refine zs_iconst (pc := 5) C dX6_learn_5 (by decide) ?_
  refine zs_istore (pc := 6) C dX6_learn_6 (by decide) ?_
  dsimp only [zset, zclr, znone]
  have L8 : ∀ (nn : Nat) (x3 x4 x5 : Int) (G1 : zH), (0 ≤ x3) → (0 ≤ x5 ∧ x5 ≤ (n : Int)) → (zsm [2044] G G1) → ((n : Int) - x5).toNat < nn → Z p l e (zrm 4) s m args below meth c Γ 7 0 0 (MQ below (zQc Γ (zpi (fun x G' => zsm [2044] G G' ∧ (0 ≤ x)))) args s 0 0 (zA Γ)) 8 [some (zr 7 w), some (zr t a), some (zi k), some (zi x3), some (zi x4), some (zi x5), none] [] G1 := by
    intro nn
    induction nn with
    | zero => intro x3 x4 x5 G1 h8_0 h8_1 h8_2 hm; exact absurd hm (Nat.not_lt_zero _)
    | succ nn ih8 =>
      intro x3 x4 x5 G1 h8_0 h8_1 h8_2 hm8
      refine zs_iload (pc := 8) C dX6_learn_8 rfl ?_
      refine zs_aload_n (pc := 10) C dX6_learn_10 rfl ?_
      refine zs_slen (pc := 11) C hJ dX6_learn_11 jw_length (by decide) ⟨Nat.zero_le _, Nat.zero_le _⟩ (Nat.le_of_ble_eq_true rfl) ?_
      refine zs_icmp_ge (tgt := 72) (pc := 14) C dX6_learn_14 (by decide) (fun h14 => ?_) (fun h14 => ?_)
      · skip
        refine zs_iload_n (pc := 72) C dX6_learn_72 rfl ?_
        exact zs_iret (pc := 73) C hr hlk dX6_learn_73 ⟨by repeat (first | exact zsm_rf | assumption | refine zsm_C (by decide) ?_ | refine zsm_I (by decide) ?_ | refine zsm_J ?_ | refine zsm_c (by assumption) (by decide) ?_), by first | omega | (simp only [zuI_1, zuI_2, zuJ_1, zuJ_2, zuJ_3, zuP_1, zuP_2, zuP_3, zuC_1, zuC_2, reduceIte, Nat.reduceEqDiff, false_and, and_false, true_and, and_true, and_self, or_true, true_or, or_false, false_or]; omega)⟩
      · skip
        refine zs_iload_n (pc := 17) C dX6_learn_17 rfl ?_
        refine zs_bipush (pc := 18) C dX6_learn_18 (by decide) (by decide) ?_
        refine zs_icmp_ge (tgt := 72) (pc := 20) C dX6_learn_20 (by decide) (fun h20 => ?_) (fun h20 => ?_)
        · skip
          refine zs_iload_n (pc := 72) C dX6_learn_72 rfl ?_
          exact zs_iret (pc := 73) C hr hlk dX6_learn_73 ⟨by repeat (first | exact zsm_rf | assumption | refine zsm_C (by decide) ?_ | refine zsm_I (by decide) ?_ | refine zsm_J ?_ | refine zsm_c (by assumption) (by decide) ?_), by first | omega | (simp only [zuI_1, zuI_2, zuJ_1, zuJ_2, zuJ_3, zuP_1, zuP_2, zuP_3, zuC_1, zuC_2, reduceIte, Nat.reduceEqDiff, false_and, and_false, true_and, and_true, and_self, or_true, true_or, or_false, false_or]; omega)⟩
        · skip
          refine zs_aload_n (pc := 23) C dX6_learn_23 rfl ?_
          refine zs_iload (pc := 24) C dX6_learn_24 rfl ?_
          refine zs_schar (pc := 26) C hJ (by omega) dX6_learn_26 jw_charAt (by decide) ⟨Nat.zero_le _, Nat.zero_le _⟩ (Nat.le_of_ble_eq_true rfl) (fun z26 hz261 hz262 => ?_)
          refine zs_istore (pc := 29) C dX6_learn_29 (by decide) ?_
          dsimp only [zset, zclr, znone]
          refine zs_iload (pc := 31) C dX6_learn_31 rfl ?_
          refine zs_bipush (pc := 33) C dX6_learn_33 (by decide) (by decide) ?_
          refine zs_icmp_ne (tgt := 47) (pc := 35) C dX6_learn_35 (by decide) (fun h35 => ?_) (fun h35 => ?_)
          · skip
            refine zs_aload_n (pc := 47) C dX6_learn_47 rfl ?_
            refine zs_getf (pc := 48) C dX6_learn_48 w_X6_11 f_7_0 (by decide) ?_
            refine zs_iload_n (pc := 51) C dX6_learn_51 rfl ?_
            refine zs_dup2 (pc := 52) C dX6_learn_52 ?_
            refine zs_iald (r := 2044) (pc := 53) C dX6_learn_53 a_44 (by decide) (by omega) rfl (r_2044 _) (fun v53 e53 l53 u53 => ?_)
            refine zs_iload (pc := 54) C dX6_learn_54 rfl ?_
            refine zs_iload (pc := 56) C dX6_learn_56 rfl ?_
            refine zSip2 (pc := 58) C dX6_learn_58 s_X6_42 (c_X6_packed hX ) (by decide) ⟨Nat.zero_le _, Nat.zero_le _⟩ (Nat.le_of_ble_eq_true rfl) (fun x58 l58 u58 hp58 => ?_)
            have hq58 := hp58
            refine zs_iorF (pc := 61) C dX6_learn_61 (fun z61 hz611 hz612 => ?_)
            refine zs_iast (r := 2044) (pc := 62) C dX6_learn_62 a_44 (by decide) (by omega) rfl (r_2044 _) (by omega) ?_
            first | refine zs_iinc (pc := 63) C dX6_learn_63 rfl (by decide) (by omega) ?_ | refine zs_iincF (pc := 63) C dX6_learn_63 rfl (by decide) (fun z63 hz631 hz632 => ?_)
            dsimp only [zset, zclr, znone]
            first | refine zs_iinc (pc := 66) C dX6_learn_66 rfl (by decide) (by omega) ?_ | refine zs_iincF (pc := 66) C dX6_learn_66 rfl (by decide) (fun z66 hz661 hz662 => ?_)
            dsimp only [zset, zclr, znone]
            refine zs_goto (tgt := 8) (pc := 69) C dX6_learn_69 (by decide) ?_
            exact zs_wk (ih8 _ _ _ _ (by first | omega | (simp only [zuI_1, zuI_2, zuJ_1, zuJ_2, zuJ_3, zuP_1, zuP_2, zuP_3, zuC_1, zuC_2, reduceIte, Nat.reduceEqDiff, false_and, and_false, true_and, and_true, and_self, or_true, true_or, or_false, false_or]; omega)) (by first | omega | (simp only [zuI_1, zuI_2, zuJ_1, zuJ_2, zuJ_3, zuP_1, zuP_2, zuP_3, zuC_1, zuC_2, reduceIte, Nat.reduceEqDiff, false_and, and_false, true_and, and_true, and_self, or_true, true_or, or_false, false_or]; omega)) (by repeat (first | exact zsm_rf | assumption | refine zsm_C (by decide) ?_ | refine zsm_I (by decide) ?_ | refine zsm_J ?_ | refine zsm_c (by assumption) (by decide) ?_)) (by first | omega | (simp only [zuI_1, zuI_2, zuJ_1, zuJ_2, zuJ_3, zuP_1, zuP_2, zuP_3, zuC_1, zuC_2, reduceIte, Nat.reduceEqDiff, false_and, and_false, true_and, and_true, and_self, or_true, true_or, or_false, false_or]; omega))) (zwk_s rfl (zwk_s rfl (zwk_s rfl (zwk_s rfl (zwk_s rfl (zwk_s rfl (zwk_n zwk_0)))))))
          · skip
            first | refine zs_iinc (pc := 38) C dX6_learn_38 rfl (by decide) (by omega) ?_ | refine zs_iincF (pc := 38) C dX6_learn_38 rfl (by decide) (fun z38 hz381 hz382 => ?_)
            dsimp only [zset, zclr, znone]
            refine zs_iconst (pc := 41) C dX6_learn_41 (by decide) ?_
            refine zs_istore (pc := 42) C dX6_learn_42 (by decide) ?_
            dsimp only [zset, zclr, znone]
            refine zs_goto (tgt := 66) (pc := 44) C dX6_learn_44 (by decide) ?_
            first | refine zs_iinc (pc := 66) C dX6_learn_66 rfl (by decide) (by omega) ?_ | refine zs_iincF (pc := 66) C dX6_learn_66 rfl (by decide) (fun z66 hz661 hz662 => ?_)
            dsimp only [zset, zclr, znone]
            refine zs_goto (tgt := 8) (pc := 69) C dX6_learn_69 (by decide) ?_
            exact zs_wk (ih8 _ _ _ _ (by first | omega | (simp only [zuI_1, zuI_2, zuJ_1, zuJ_2, zuJ_3, zuP_1, zuP_2, zuP_3, zuC_1, zuC_2, reduceIte, Nat.reduceEqDiff, false_and, and_false, true_and, and_true, and_self, or_true, true_or, or_false, false_or]; omega)) (by first | omega | (simp only [zuI_1, zuI_2, zuJ_1, zuJ_2, zuJ_3, zuP_1, zuP_2, zuP_3, zuC_1, zuC_2, reduceIte, Nat.reduceEqDiff, false_and, and_false, true_and, and_true, and_self, or_true, true_or, or_false, false_or]; omega)) (by repeat (first | exact zsm_rf | assumption | refine zsm_C (by decide) ?_ | refine zsm_I (by decide) ?_ | refine zsm_J ?_ | refine zsm_c (by assumption) (by decide) ?_)) (by first | omega | (simp only [zuI_1, zuI_2, zuJ_1, zuJ_2, zuJ_3, zuP_1, zuP_2, zuP_3, zuC_1, zuC_2, reduceIte, Nat.reduceEqDiff, false_and, and_false, true_and, and_true, and_self, or_true, true_or, or_false, false_or]; omega))) (zwk_s rfl (zwk_s rfl (zwk_s rfl (zwk_s rfl (zwk_s rfl (zwk_s rfl (zwk_n zwk_0)))))))
  exact zs_wk (L8 _ _ _ _ _ (by first | omega | (simp only [zuI_1, zuI_2, zuJ_1, zuJ_2, zuJ_3, zuP_1, zuP_2, zuP_3, zuC_1, zuC_2, reduceIte, Nat.reduceEqDiff, false_and, and_false, true_and, and_true, and_self, or_true, true_or, or_false, false_or]; omega)) (by first | omega | (simp only [zuI_1, zuI_2, zuJ_1, zuJ_2, zuJ_3, zuP_1, zuP_2, zuP_3, zuC_1, zuC_2, reduceIte, Nat.reduceEqDiff, false_and, and_false, true_and, and_true, and_self, or_true, true_or, or_false, false_or]; omega)) (by repeat (first | exact zsm_rf | assumption | refine zsm_C (by decide) ?_ | refine zsm_I (by decide) ?_ | refine zsm_J ?_ | refine zsm_c (by assumption) (by decide) ?_)) (Nat.lt_succ_self _)) (zwk_s rfl (zwk_s rfl (zwk_s rfl (zwk_s rfl (zwk_s rfl (zwk_s rfl (zwk_n zwk_0)))))))
