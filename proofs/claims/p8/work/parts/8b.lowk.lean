set_option maxHeartbeats 4000000 in
set_option maxRecDepth 100000 in
theorem c_X9_plainL {l : Launch} {Γ : zΓ} {G : zH} {w : Nat}  (hX : zXs Γ) (hM : MI Γ w G) : zMet l Γ yX9_plain cX9_plain 2 none 0 [zr 10 w] G (zpv (fun G' => zsm [1017, 1018, 1019, 1020, 1021, 1045, 2059, 2060, 2071] G G' ∧ LHr G G' ∧ (MI Γ w G' ∧ RC Γ w G' ∧ gZ Γ w G'))) := by
  refine zMet_of RX9 hX (by decide) rfl (Nat.le_of_ble_eq_true rfl) ?_
  intro p e s m args below meth c C hr hlk
  show Z p l e (zrm 0) s m args below meth c Γ 2 0 0 (MQ below (zQc Γ (zpv (fun G' => zsm [1017, 1018, 1019, 1020, 1021, 1045, 2059, 2060, 2071] G G' ∧ LHr G G' ∧ (MI Γ w G' ∧ RC Γ w G' ∧ gZ Γ w G')))) args s 0 0 (zA Γ)) 0 [some (zr 10 w), none] [] G
  have hoo4 := rs_2059 (4 : Int).toNat
  have hoo5 := rs_2059 (5 : Int).toNat
  have hoo6 := rs_2059 (6 : Int).toNat
  have hoo7 := rs_2059 (7 : Int).toNat
  refine zs_aload_n (pc := 0) C dX9_plain_0 rfl ?_
  refine zs_iconst (pc := 1) C dX9_plain_1 (by decide) ?_
  refine zs_puti (r := 1017) (pc := 2) C dX9_plain_2 w_X9_240 f_10_17 rfl (r_1017 0) (by omega) ?_
  refine zs_aload_n (pc := 5) C dX9_plain_5 rfl ?_
  refine zs_iconst (pc := 6) C dX9_plain_6 (by decide) ?_
  refine zs_puti (r := 1018) (pc := 7) C dX9_plain_7 w_X9_243 f_10_18 rfl (r_1018 0) (by omega) ?_
  refine zs_aload_n (pc := 10) C dX9_plain_10 rfl ?_
  refine zs_iconst (pc := 11) C dX9_plain_11 (by decide) ?_
  refine zs_puti (r := 1019) (pc := 12) C dX9_plain_12 w_X9_246 f_10_19 rfl (r_1019 0) (by omega) ?_
  refine zs_aload_n (pc := 15) C dX9_plain_15 rfl ?_
  refine zs_iconst (pc := 16) C dX9_plain_16 (by decide) ?_
  refine zs_puti (r := 1020) (pc := 17) C dX9_plain_17 w_X9_249 f_10_20 rfl (r_1020 0) (by omega) ?_
  refine zs_aload_n (pc := 20) C dX9_plain_20 rfl ?_
  refine zs_iconst (pc := 21) C dX9_plain_21 (by decide) ?_
  refine zs_puti (r := 1021) (pc := 22) C dX9_plain_22 w_X9_252 f_10_21 rfl (r_1021 0) (by omega) ?_
  refine zs_aload_n (pc := 25) C dX9_plain_25 rfl ?_
  refine zs_iconst (pc := 26) C dX9_plain_26 (by decide) ?_
  refine zs_puti (r := 1045) (pc := 27) C dX9_plain_27 w_X9_255 f_10_45 rfl (r_1045 0) (by omega) ?_
  refine zs_aload_n (pc := 30) C dX9_plain_30 rfl ?_
  refine zs_getf (pc := 31) C dX9_plain_31 w_X9_20 f_10_22 (by decide) ?_
  refine zs_iconst (pc := 34) C dX9_plain_34 (by decide) ?_
  refine zs_bipush (pc := 35) C dX9_plain_35 (by decide) (by decide) ?_
  refine zs_iast (r := 2059) (pc := 37) C dX9_plain_37 a_59 (by decide) (by omega) rfl (show zrg 2059 (4 : Int).toNat = ((zrg 2059 (4 : Int).toNat).1, (zrg 2059 (4 : Int).toNat).2) from rfl) (by omega) ?_
  refine zs_aload_n (pc := 38) C dX9_plain_38 rfl ?_
  refine zs_getf (pc := 39) C dX9_plain_39 w_X9_20 f_10_22 (by decide) ?_
  refine zs_iconst (pc := 42) C dX9_plain_42 (by decide) ?_
  refine zs_iconst (pc := 43) C dX9_plain_43 (by decide) ?_
  refine zs_iast (r := 2059) (pc := 44) C dX9_plain_44 a_59 (by decide) (by omega) rfl (show zrg 2059 (5 : Int).toNat = ((zrg 2059 (5 : Int).toNat).1, (zrg 2059 (5 : Int).toNat).2) from rfl) (by omega) ?_
  refine zs_aload_n (pc := 45) C dX9_plain_45 rfl ?_
  refine zs_getf (pc := 46) C dX9_plain_46 w_X9_20 f_10_22 (by decide) ?_
  refine zs_bipush (pc := 49) C dX9_plain_49 (by decide) (by decide) ?_
  refine zs_iconst (pc := 51) C dX9_plain_51 (by decide) ?_
  refine zs_iast (r := 2059) (pc := 52) C dX9_plain_52 a_59 (by decide) (by omega) rfl (show zrg 2059 (6 : Int).toNat = ((zrg 2059 (6 : Int).toNat).1, (zrg 2059 (6 : Int).toNat).2) from rfl) (by omega) ?_
  refine zs_aload_n (pc := 53) C dX9_plain_53 rfl ?_
  refine zs_getf (pc := 54) C dX9_plain_54 w_X9_20 f_10_22 (by decide) ?_
  refine zs_bipush (pc := 57) C dX9_plain_57 (by decide) (by decide) ?_
  refine zs_iconst (pc := 59) C dX9_plain_59 (by decide) ?_
  refine zs_iast (r := 2059) (pc := 60) C dX9_plain_60 a_59 (by decide) (by omega) rfl (show zrg 2059 (7 : Int).toNat = ((zrg 2059 (7 : Int).toNat).1, (zrg 2059 (7 : Int).toNat).2) from rfl) (by omega) ?_
  refine zs_heap (P := fun G1 => zsm [1017, 1018, 1019, 1020, 1021, 1045, 2059] G G1 ∧ LHr G G1 ∧ G1.1 1045 w 0 = 0 ∧ G1.1 1021 w 0 = 0 ∧ (G1.1 1017 w 0 = 0 ∧ G1.1 1018 w 0 = 0 ∧ G1.1 1019 w 0 = 0 ∧ G1.1 1020 w 0 = 0 ∧ G1.1 1021 w 0 = 0 ∧ G1.1 1045 w 0 = 0 ∧ G1.1 2059 (Γ.2.1 w 22) 4 = 100 ∧ G1.1 2059 (Γ.2.1 w 22) 5 = 5 ∧ G1.1 2059 (Γ.2.1 w 22) 6 = 0 ∧ G1.1 2059 (Γ.2.1 w 22) 7 = 0)) ⟨(by repeat (first | exact zsm_rf | assumption | refine zsm_C (by decide) ?_ | refine zsm_I (by decide) ?_ | refine zsm_J ?_ | refine zsm_c (by assumption) (by decide) ?_)), (by repeat (first | exact LHr_rf | assumption | refine LHr_I (h := 0) (by decide) (Nat.zero_le _) ?_ | refine LHr_I (h := 3) (by decide) (by omega) ?_ | refine LHr_I (h := 4) (by decide) (by omega) ?_ | refine LHr_I (h := 5) (by decide) (by omega) ?_ | refine LHr_I (h := 7) (by decide) (by omega) ?_ | refine LHr_I (h := 20) (by decide) (by omega) ?_ | refine LHr_I (h := 64) (by decide) (by omega) ?_ | refine LHr_J ?_ | refine LHr_c (by assumption) ?_ | refine LHr_z (by assumption) (by decide) ?_)), by simp only [zuI_1, zuI_2, zuJ_1, zuJ_2, zuJ_3, zuP_1, zuP_2, zuP_3, zuC_1, zuC_2, reduceIte, Nat.reduceEqDiff, false_and, and_false, true_and, and_true, and_self, or_true, true_or, or_false, false_or], by simp only [zuI_1, zuI_2, zuJ_1, zuJ_2, zuJ_3, zuP_1, zuP_2, zuP_3, zuC_1, zuC_2, reduceIte, Nat.reduceEqDiff, false_and, and_false, true_and, and_true, and_self, or_true, true_or, or_false, false_or], (by refine ⟨?_, ?_, ?_, ?_, ?_, ?_, ?_, ?_, ?_, ?_⟩ <;> simp [zuI_1])⟩ (fun G1 hG1 => ?_)
  obtain ⟨hh1, lwG1, hh2, hh3, hh4⟩ := hG1
  refine zs_iconst (pc := 61) C dX9_plain_61 (by decide) ?_
  refine zs_istore_n (pc := 62) C dX9_plain_62 (by decide) ?_
  dsimp only [zset, zclr, znone]
  have L63 : ∀ (nn : Nat) (x1 : Int) (G2 : zH), (0 ≤ x1 ∧ x1 ≤ 4) → (zsm [2060] G1 G2) → (∀ j : Nat, (j : Int) < x1 → G2.1 2060 (Γ.2.1 w 23) j = 0) → (LHr G1 G2) → (4 - x1).toNat < nn → Z p l e (zrm 0) s m args below meth c Γ 2 0 0 (MQ below (zQc Γ (zpv (fun G' => zsm [1017, 1018, 1019, 1020, 1021, 1045, 2059, 2060, 2071] G G' ∧ LHr G G' ∧ (MI Γ w G' ∧ RC Γ w G' ∧ gZ Γ w G')))) args s 0 0 (zA Γ)) 63 [some (zr 10 w), some (zi x1)] [] G2 := by
    intro nn
    induction nn with
    | zero => intro x1 G2 h63_0 h63_1 h63_2 h63_3 hm; exact absurd hm (Nat.not_lt_zero _)
    | succ nn ih63 =>
      intro x1 G2 h63_0 h63_1 h63_2 h63_3 hm63
      refine zs_iload_n (pc := 63) C dX9_plain_63 rfl ?_
      refine zs_iconst (pc := 64) C dX9_plain_64 (by decide) ?_
      refine zs_icmp_ge (tgt := 81) (pc := 65) C dX9_plain_65 (by decide) (fun h65 => ?_) (fun h65 => ?_)
      · skip
        refine zs_bipush (pc := 81) C dX9_plain_81 (by decide) (by decide) ?_
        refine zs_istore_n (pc := 83) C dX9_plain_83 (by decide) ?_
        dsimp only [zset, zclr, znone]
        have L84 : ∀ (nn : Nat) (x1 : Int) (G3 : zH), (7 ≤ x1 ∧ x1 ≤ 14) → (zsm [1017, 1018, 1019, 1020, 1021, 1045, 2059, 2060, 2071] G G3) → (MI Γ w G3) → (LZ Γ w G3 x1) → (G3.1 1045 w 0 = 0 ∧ G3.1 1021 w 0 = 0) → (G3.1 1017 w 0 = 0 ∧ G3.1 1018 w 0 = 0 ∧ G3.1 1019 w 0 = 0 ∧ G3.1 1020 w 0 = 0 ∧ G3.1 1021 w 0 = 0 ∧ G3.1 1045 w 0 = 0 ∧ G3.1 2059 (Γ.2.1 w 22) 4 = 100 ∧ G3.1 2059 (Γ.2.1 w 22) 5 = 5 ∧ G3.1 2059 (Γ.2.1 w 22) 6 = 0 ∧ G3.1 2059 (Γ.2.1 w 22) 7 = 0) → (∀ j : Nat, j < 4 → G3.1 2060 (Γ.2.1 w 23) j = 0) → (LHr G G3) → (14 - x1).toNat < nn → Z p l e (zrm 0) s m args below meth c Γ 2 0 0 (MQ below (zQc Γ (zpv (fun G' => zsm [1017, 1018, 1019, 1020, 1021, 1045, 2059, 2060, 2071] G G' ∧ LHr G G' ∧ (MI Γ w G' ∧ RC Γ w G' ∧ gZ Γ w G')))) args s 0 0 (zA Γ)) 84 [some (zr 10 w), some (zi x1)] [] G3 := by
          intro nn
          induction nn with
          | zero => intro x1 G3 h84_0 h84_1 h84_2 h84_3 h84_4 h84_5 h84_6 h84_7 hm; exact absurd hm (Nat.not_lt_zero _)
          | succ nn ih84 =>
            intro x1 G3 h84_0 h84_1 h84_2 h84_3 h84_4 h84_5 h84_6 h84_7 hm84
            refine zs_iload_n (pc := 84) C dX9_plain_84 rfl ?_
            refine zs_bipush (pc := 85) C dX9_plain_85 (by decide) (by decide) ?_
            refine zs_icmp_ge (tgt := 103) (pc := 87) C dX9_plain_87 (by decide) (fun h87 => ?_) (fun h87 => ?_)
            · skip
              exact zs_vret (pc := 103) C hr hlk dX9_plain_103 ⟨by repeat (first | exact zsm_rf | assumption | refine zsm_C (by decide) ?_ | refine zsm_I (by decide) ?_ | refine zsm_J ?_ | refine zsm_c (by assumption) (by decide) ?_), (by repeat (first | exact LHr_rf | assumption | refine LHr_I (h := 0) (by decide) (Nat.zero_le _) ?_ | refine LHr_I (h := 3) (by decide) (by omega) ?_ | refine LHr_I (h := 4) (by decide) (by omega) ?_ | refine LHr_I (h := 5) (by decide) (by omega) ?_ | refine LHr_I (h := 7) (by decide) (by omega) ?_ | refine LHr_I (h := 20) (by decide) (by omega) ?_ | refine LHr_I (h := 64) (by decide) (by omega) ?_ | refine LHr_J ?_ | refine LHr_c (by assumption) ?_ | refine LHr_z (by assumption) (by decide) ?_)), ⟨h84_2, RC_z (by omega) h84_3 (by omega), (by obtain ⟨q1, q2, q3, q4, q5, q6, q7, q8, q9, q10⟩ := h84_5; exact ⟨q1, q2, q3, q4, q5, q6, q7, q8, q9, q10, h84_6, fun j j1 j2 => h84_3 j j1 (by omega)⟩)⟩⟩
            · skip
              refine zs_aload_n (pc := 90) C dX9_plain_90 rfl ?_
              refine zs_getf (pc := 91) C dX9_plain_91 w_X9_57 f_10_34 (by decide) ?_
              refine zs_iload_n (pc := 94) C dX9_plain_94 rfl ?_
              refine zs_iconst (pc := 95) C dX9_plain_95 (by decide) ?_
              refine zs_zast (r := 2071) (pc := 96) C dX9_plain_96 a_71 (by decide) (by omega) rfl (r_2071 _) (by omega) (by omega) ?_
              first | refine zs_iinc (pc := 97) C dX9_plain_97 rfl (by decide) (by omega) ?_ | refine zs_iincF (pc := 97) C dX9_plain_97 rfl (by decide) (fun z97 hz971 hz972 => ?_)
              dsimp only [zset, zclr, znone]
              refine zs_goto (tgt := 84) (pc := 100) C dX9_plain_100 (by decide) ?_
              exact zs_wk (ih84 _ _ (by omega) (by repeat (first | exact zsm_rf | assumption | refine zsm_C (by decide) ?_ | refine zsm_I (by decide) ?_ | refine zsm_J ?_ | refine zsm_c (by assumption) (by decide) ?_)) (MI_h71 (by omega) h84_2) (LZ_s (by omega) h84_3) (by first | omega | (simp only [zuI_1, zuI_2, zuJ_1, zuJ_2, zuJ_3, zuP_1, zuP_2, zuP_3, zuC_1, zuC_2, reduceIte, Nat.reduceEqDiff, false_and, and_false, true_and, and_true, and_self, or_true, true_or, or_false, false_or]; omega)) (by simp (disch := decide) only [zuI_nf]; exact h84_5) (fun j hj => by rw [zuI_nf (by decide)]; exact h84_6 j hj) (by repeat (first | exact LHr_rf | assumption | refine LHr_I (h := 0) (by decide) (Nat.zero_le _) ?_ | refine LHr_I (h := 3) (by decide) (by omega) ?_ | refine LHr_I (h := 4) (by decide) (by omega) ?_ | refine LHr_I (h := 5) (by decide) (by omega) ?_ | refine LHr_I (h := 7) (by decide) (by omega) ?_ | refine LHr_I (h := 20) (by decide) (by omega) ?_ | refine LHr_I (h := 64) (by decide) (by omega) ?_ | refine LHr_J ?_ | refine LHr_c (by assumption) ?_ | refine LHr_z (by assumption) (by decide) ?_)) (by first | omega | (simp only [zuI_1, zuI_2, zuJ_1, zuJ_2, zuJ_3, zuP_1, zuP_2, zuP_3, zuC_1, zuC_2, reduceIte, Nat.reduceEqDiff, false_and, and_false, true_and, and_true, and_self, or_true, true_or, or_false, false_or]; omega))) (zwk_s rfl (zwk_s rfl zwk_0))
        exact zs_wk (L84 _ _ _ (by omega) (by repeat (first | exact zsm_rf | assumption | refine zsm_C (by decide) ?_ | refine zsm_I (by decide) ?_ | refine zsm_J ?_ | refine zsm_c (by assumption) (by decide) ?_)) (by repeat (first | assumption | refine MI_I (by decide) ?_ | refine MI_J ?_ | refine MI_sm (by assumption) (by decide) ?_ | refine MI_sn (by assumption) (by decide) ?_)) LZ_0 (by have q1 := zsm_at h63_1 1045 w 0 (by decide); have q2 := zsm_at h63_1 1021 w 0 (by decide); omega) (by rw [h63_1.1 1017 (by decide), h63_1.1 1018 (by decide), h63_1.1 1019 (by decide), h63_1.1 1020 (by decide), h63_1.1 1021 (by decide), h63_1.1 1045 (by decide), h63_1.1 2059 (by decide)]; exact hh4) (fun j hj => h63_2 j (by omega)) (by repeat (first | exact LHr_rf | assumption | refine LHr_I (h := 0) (by decide) (Nat.zero_le _) ?_ | refine LHr_I (h := 3) (by decide) (by omega) ?_ | refine LHr_I (h := 4) (by decide) (by omega) ?_ | refine LHr_I (h := 5) (by decide) (by omega) ?_ | refine LHr_I (h := 7) (by decide) (by omega) ?_ | refine LHr_I (h := 20) (by decide) (by omega) ?_ | refine LHr_I (h := 64) (by decide) (by omega) ?_ | refine LHr_J ?_ | refine LHr_c (by assumption) ?_ | refine LHr_z (by assumption) (by decide) ?_)) (Nat.lt_succ_self _)) (zwk_s rfl (zwk_s rfl zwk_0))
      · skip
        refine zs_aload_n (pc := 68) C dX9_plain_68 rfl ?_
        refine zs_getf (pc := 69) C dX9_plain_69 w_X9_23 f_10_23 (by decide) ?_
        refine zs_iload_n (pc := 72) C dX9_plain_72 rfl ?_
        refine zs_iconst (pc := 73) C dX9_plain_73 (by decide) ?_
        refine zs_zast (r := 2060) (pc := 74) C dX9_plain_74 a_60 (by decide) (by omega) rfl (r_2060 _) (by omega) (by omega) ?_
        first | refine zs_iinc (pc := 75) C dX9_plain_75 rfl (by decide) (by omega) ?_ | refine zs_iincF (pc := 75) C dX9_plain_75 rfl (by decide) (fun z75 hz751 hz752 => ?_)
        dsimp only [zset, zclr, znone]
        refine zs_goto (tgt := 63) (pc := 78) C dX9_plain_78 (by decide) ?_
        exact zs_wk (ih63 _ _ (by omega) (by repeat (first | exact zsm_rf | assumption | refine zsm_C (by decide) ?_ | refine zsm_I (by decide) ?_ | refine zsm_J ?_ | refine zsm_c (by assumption) (by decide) ?_)) (fun j hj => by simp only [zuI_1, zuI_2, zuJ_1, zuJ_2, zuJ_3, zuP_1, zuP_2, zuP_3, zuC_1, zuC_2, reduceIte, Nat.reduceEqDiff, false_and, and_false, true_and, and_true, and_self, or_true, true_or, or_false, false_or]; by_cases q : j = x1.toNat; (rw [if_pos q]); (rw [if_neg q]; exact h63_2 j (by omega))) (by repeat (first | exact LHr_rf | assumption | refine LHr_I (h := 0) (by decide) (Nat.zero_le _) ?_ | refine LHr_I (h := 3) (by decide) (by omega) ?_ | refine LHr_I (h := 4) (by decide) (by omega) ?_ | refine LHr_I (h := 5) (by decide) (by omega) ?_ | refine LHr_I (h := 7) (by decide) (by omega) ?_ | refine LHr_I (h := 20) (by decide) (by omega) ?_ | refine LHr_I (h := 64) (by decide) (by omega) ?_ | refine LHr_J ?_ | refine LHr_c (by assumption) ?_ | refine LHr_z (by assumption) (by decide) ?_)) (by first | omega | (simp only [zuI_1, zuI_2, zuJ_1, zuJ_2, zuJ_3, zuP_1, zuP_2, zuP_3, zuC_1, zuC_2, reduceIte, Nat.reduceEqDiff, false_and, and_false, true_and, and_true, and_self, or_true, true_or, or_false, false_or]; omega))) (zwk_s rfl (zwk_s rfl zwk_0))
  exact zs_wk (L63 _ _ _ (by omega) zsm_rf (fun j hj => by omega) (by repeat (first | exact LHr_rf | assumption | refine LHr_I (h := 0) (by decide) (Nat.zero_le _) ?_ | refine LHr_I (h := 3) (by decide) (by omega) ?_ | refine LHr_I (h := 4) (by decide) (by omega) ?_ | refine LHr_I (h := 5) (by decide) (by omega) ?_ | refine LHr_I (h := 7) (by decide) (by omega) ?_ | refine LHr_I (h := 20) (by decide) (by omega) ?_ | refine LHr_I (h := 64) (by decide) (by omega) ?_ | refine LHr_J ?_ | refine LHr_c (by assumption) ?_ | refine LHr_z (by assumption) (by decide) ?_)) (Nat.lt_succ_self _)) (zwk_s rfl (zwk_s rfl zwk_0))
