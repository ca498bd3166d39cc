section
set_option maxHeartbeats 4000000 in
set_option maxRecDepth 100000 in
theorem c_X9_plainY {l : Launch} {Γ : zΓ} {G : zH} {w : Nat}  (hX : zXs Γ) (hM : MI Γ w G) : zMet l Γ yX9_plain cX9_plain 2 none 0 [zr 10 w] G (zpv (fun G' => zsm [1017, 1018, 1019, 1020, 1021, 1045, 2059, 2060, 2071] G G' ∧ LJr G G' ∧ (MI Γ w G' ∧ RC Γ w G' ∧ gZ Γ w G'))) := by
  refine zMet_of RX9 hX (by decide) rfl (Nat.le_of_ble_eq_true rfl) ?_
  intro p e s m args below meth c C hr hlk
  show Z p l e (zrm 0) s m args below meth c Γ 2 0 0 (MQ below (zQc Γ (zpv (fun G' => zsm [1017, 1018, 1019, 1020, 1021, 1045, 2059, 2060, 2071] G G' ∧ LJr G G' ∧ (MI Γ w G' ∧ RC Γ w G' ∧ gZ Γ w G')))) args s 0 0 (zA Γ)) 0 [some (zr 10 w), none] [] G
  have hoo4 := rs_2059 (4 : Int).toNat
  have hoo5 := rs_2059 (5 : Int).toNat
  have hoo6 := rs_2059 (6 : Int).toNat
  have hoo7 := rs_2059 (7 : Int).toNat
  refine zs_aload_n (pc := 0) C dX9_plain_0 rfl ?_
  refine zs_iconst (pc := 1) C dX9_plain_1 (by decide) ?_
  refine zs_puti (r := 1017) (pc := 2) C dX9_plain_2 w_X9_240 f_10_17 rfl (r_1017 0) (by omega) ?_
  refine zs_aload_n (pc := 5) C dX9_plain_5 rfl ?_
  refine zs_iconst (pc := 6) C dX9_plain_6 (by decide) ?_
  refine zs_puti (r := 1018) (pc := 7) C dX9_plain_7 w_X9_243 f_10_18 rfl (r_1018 0) (by omega) ?_
  refine zs_aload_n (pc := 10) C dX9_plain_10 rfl ?_
  refine zs_iconst (pc := 11) C dX9_plain_11 (by decide) ?_
  refine zs_puti (r := 1019) (pc := 12) C dX9_plain_12 w_X9_246 f_10_19 rfl (r_1019 0) (by omega) ?_
  refine zs_aload_n (pc := 15) C dX9_plain_15 rfl ?_
  refine zs_iconst (pc := 16) C dX9_plain_16 (by decide) ?_
  refine zs_puti (r := 1020) (pc := 17) C dX9_plain_17 w_X9_249 f_10_20 rfl (r_1020 0) (by omega) ?_
  refine zs_aload_n (pc := 20) C dX9_plain_20 rfl ?_
  refine zs_iconst (pc := 21) C dX9_plain_21 (by decide) ?_
  refine zs_puti (r := 1021) (pc := 22) C dX9_plain_22 w_X9_252 f_10_21 rfl (r_1021 0) (by omega) ?_
  refine zs_aload_n (pc := 25) C dX9_plain_25 rfl ?_
  refine zs_iconst (pc := 26) C dX9_plain_26 (by decide) ?_
  refine zs_puti (r := 1045) (pc := 27) C dX9_plain_27 w_X9_255 f_10_45 rfl (r_1045 0) (by omega) ?_
  refine zs_aload_n (pc := 30) C dX9_plain_30 rfl ?_
  refine zs_getf (pc := 31) C dX9_plain_31 w_X9_20 f_10_22 (by decide) ?_
  refine zs_iconst (pc := 34) C dX9_plain_34 (by decide) ?_
  refine zs_bipush (pc := 35) C dX9_plain_35 (by decide) (by decide) ?_
  refine zs_iast (r := 2059) (pc := 37) C dX9_plain_37 a_59 (by decide) (by omega) rfl (show zrg 2059 (4 : Int).toNat = ((zrg 2059 (4 : Int).toNat).1, (zrg 2059 (4 : Int).toNat).2) from rfl) (by omega) ?_
  refine zs_aload_n (pc := 38) C dX9_plain_38 rfl ?_
  refine zs_getf (pc := 39) C dX9_plain_39 w_X9_20 f_10_22 (by decide) ?_
  refine zs_iconst (pc := 42) C dX9_plain_42 (by decide) ?_
  refine zs_iconst (pc := 43) C dX9_plain_43 (by decide) ?_
  refine zs_iast (r := 2059) (pc := 44) C dX9_plain_44 a_59 (by decide) (by omega) rfl (show zrg 2059 (5 : Int).toNat = ((zrg 2059 (5 : Int).toNat).1, (zrg 2059 (5 : Int).toNat).2) from rfl) (by omega) ?_
  refine zs_aload_n (pc := 45) C dX9_plain_45 rfl ?_
  refine zs_getf (pc := 46) C dX9_plain_46 w_X9_20 f_10_22 (by decide) ?_
  refine zs_bipush (pc := 49) C dX9_plain_49 (by decide) (by decide) ?_
  refine zs_iconst (pc := 51) C dX9_plain_51 (by decide) ?_
  refine zs_iast (r := 2059) (pc := 52) C dX9_plain_52 a_59 (by decide) (by omega) rfl (show zrg 2059 (6 : Int).toNat = ((zrg 2059 (6 : Int).toNat).1, (zrg 2059 (6 : Int).toNat).2) from rfl) (by omega) ?_
  refine zs_aload_n (pc := 53) C dX9_plain_53 rfl ?_
  refine zs_getf (pc := 54) C dX9_plain_54 w_X9_20 f_10_22 (by decide) ?_
  refine zs_bipush (pc := 57) C dX9_plain_57 (by decide) (by decide) ?_
  refine zs_iconst (pc := 59) C dX9_plain_59 (by decide) ?_
  refine zs_iast (r := 2059) (pc := 60) C dX9_plain_60 a_59 (by decide) (by omega) rfl (show zrg 2059 (7 : Int).toNat = ((zrg 2059 (7 : Int).toNat).1, (zrg 2059 (7 : Int).toNat).2) from rfl) (by omega) ?_
  refine zs_heap (P := fun G1 => zsm [1017, 1018, 1019, 1020, 1021, 1045, 2059] G G1 ∧ LJr G G1 ∧ G1.1 1045 w 0 = 0 ∧ G1.1 1021 w 0 = 0 ∧ (G1.1 1017 w 0 = 0 ∧ G1.1 1018 w 0 = 0 ∧ G1.1 1019 w 0 = 0 ∧ G1.1 1020 w 0 = 0 ∧ G1.1 1021 w 0 = 0 ∧ G1.1 1045 w 0 = 0 ∧ G1.1 2059 (Γ.2.1 w 22) 4 = 100 ∧ G1.1 2059 (Γ.2.1 w 22) 5 = 5 ∧ G1.1 2059 (Γ.2.1 w 22) 6 = 0 ∧ G1.1 2059 (Γ.2.1 w 22) 7 = 0)) ⟨(by repeat (first | exact zsm_rf | assumption | refine zsm_C (by decide) ?_ | refine zsm_I (by decide) ?_ | refine zsm_J ?_ | refine zsm_c (by assumption) (by decide) ?_)), (by with_reducible repeat (first | exact LJr_rf | assumption | refine LJr_I (h := 0) (by decide) (Nat.zero_le _) ?_ | refine LJr_I (h := 3) (by decide) (by omega) ?_ | refine LJr_I (h := 4) (by decide) (by omega) ?_ | refine LJr_I (h := 5) (by decide) (by omega) ?_ | refine LJr_I (h := 7) (by decide) (by omega) ?_ | refine LJr_I (h := 20) (by decide) (by omega) ?_ | refine LJr_I (h := 64) (by decide) (by omega) ?_ | refine LJr_c (by assumption) ?_)), by simp only [zuI_1, zuI_2, zuJ_1, zuJ_2, zuJ_3, zuP_1, zuP_2, zuP_3, zuC_1, zuC_2, reduceIte, Nat.reduceEqDiff, false_and, and_false, true_and, and_true, and_self, or_true, true_or, or_false, false_or], by simp only [zuI_1, zuI_2, zuJ_1, zuJ_2, zuJ_3, zuP_1, zuP_2, zuP_3, zuC_1, zuC_2, reduceIte, Nat.reduceEqDiff, false_and, and_false, true_and, and_true, and_self, or_true, true_or, or_false, false_or], (by refine ⟨?_, ?_, ?_, ?_, ?_, ?_, ?_, ?_, ?_, ?_⟩ <;> simp [zuI_1])⟩ (fun G1 hG1 => ?_)
  obtain ⟨hh1, lwG1, hh2, hh3, hh4⟩ := hG1
  refine zs_iconst (pc := 61) C dX9_plain_61 (by decide) ?_
  refine zs_istore_n (pc := 62) C dX9_plain_62 (by decide) ?_
  dsimp only [zset, zclr, znone]
  have L63 : ∀ (nn : Nat) (x1 : Int) (G2 : zH), (0 ≤ x1 ∧ x1 ≤ 4) → (zsm [2060] G1 G2) → (∀ j : Nat, (j : Int) < x1 → G2.1 2060 (Γ.2.1 w 23) j = 0) → (LJr G1 G2) → (4 - x1).toNat < nn → Z p l e (zrm 0) s m args below meth c Γ 2 0 0 (MQ below (zQc Γ (zpv (fun G' => zsm [1017, 1018, 1019, 1020, 1021, 1045, 2059, 2060, 2071] G G' ∧ LJr G G' ∧ (MI Γ w G' ∧ RC Γ w G' ∧ gZ Γ w G')))) args s 0 0 (zA Γ)) 63 [some (zr 10 w), some (zi x1)] [] G2 := by
    intro nn
    induction nn with
    | zero => intro x1 G2 h63_0 h63_1 h63_2 h63_3 hm; exact absurd hm (Nat.not_lt_zero _)
    | succ nn ih63 =>
      intro x1 G2 h63_0 h63_1 h63_2 h63_3 hm63
      refine zs_iload_n (pc := 63) C dX9_plain_63 rfl ?_
      refine zs_iconst (pc := 64) C dX9_plain_64 (by decide) ?_
      refine zs_icmp_ge (tgt := 81) (pc := 65) C dX9_plain_65 (by decide) (fun h65 => ?_) (fun h65 => ?_)
      · skip
        refine zs_bipush (pc := 81) C dX9_plain_81 (by decide) (by decide) ?_
        refine zs_istore_n (pc := 83) C dX9_plain_83 (by decide) ?_
        dsimp only [zset, zclr, znone]
        have L84 : ∀ (nn : Nat) (x1 : Int) (G3 : zH), (7 ≤ x1 ∧ x1 ≤ 14) → (zsm [1017, 1018, 1019, 1020, 1021, 1045, 2059, 2060, 2071] G G3) → (MI Γ w G3) → (LZ Γ w G3 x1) → (G3.1 1045 w 0 = 0 ∧ G3.1 1021 w 0 = 0) → (G3.1 1017 w 0 = 0 ∧ G3.1 1018 w 0 = 0 ∧ G3.1 1019 w 0 = 0 ∧ G3.1 1020 w 0 = 0 ∧ G3.1 1021 w 0 = 0 ∧ G3.1 1045 w 0 = 0 ∧ G3.1 2059 (Γ.2.1 w 22) 4 = 100 ∧ G3.1 2059 (Γ.2.1 w 22) 5 = 5 ∧ G3.1 2059 (Γ.2.1 w 22) 6 = 0 ∧ G3.1 2059 (Γ.2.1 w 22) 7 = 0) → (∀ j : Nat, j < 4 → G3.1 2060 (Γ.2.1 w 23) j = 0) → (LJr G G3) → (14 - x1).toNat < nn → Z p l e (zrm 0) s m args below meth c Γ 2 0 0 (MQ below (zQc Γ (zpv (fun G' => zsm [1017, 1018, 1019, 1020, 1021, 1045, 2059, 2060, 2071] G G' ∧ LJr G G' ∧ (MI Γ w G' ∧ RC Γ w G' ∧ gZ Γ w G')))) args s 0 0 (zA Γ)) 84 [some (zr 10 w), some (zi x1)] [] G3 := by
          intro nn
          induction nn with
          | zero => intro x1 G3 h84_0 h84_1 h84_2 h84_3 h84_4 h84_5 h84_6 h84_7 hm; exact absurd hm (Nat.not_lt_zero _)
          | succ nn ih84 =>
            intro x1 G3 h84_0 h84_1 h84_2 h84_3 h84_4 h84_5 h84_6 h84_7 hm84
            refine zs_iload_n (pc := 84) C dX9_plain_84 rfl ?_
            refine zs_bipush (pc := 85) C dX9_plain_85 (by decide) (by decide) ?_
            refine zs_icmp_ge (tgt := 103) (pc := 87) C dX9_plain_87 (by decide) (fun h87 => ?_) (fun h87 => ?_)
            · skip
              exact zs_vret (pc := 103) C hr hlk dX9_plain_103 ⟨by repeat (first | exact zsm_rf | assumption | refine zsm_C (by decide) ?_ | refine zsm_I (by decide) ?_ | refine zsm_J ?_ | refine zsm_c (by assumption) (by decide) ?_), (by with_reducible repeat (first | exact LJr_rf | assumption | refine LJr_I (h := 0) (by decide) (Nat.zero_le _) ?_ | refine LJr_I (h := 3) (by decide) (by omega) ?_ | refine LJr_I (h := 4) (by decide) (by omega) ?_ | refine LJr_I (h := 5) (by decide) (by omega) ?_ | refine LJr_I (h := 7) (by decide) (by omega) ?_ | refine LJr_I (h := 20) (by decide) (by omega) ?_ | refine LJr_I (h := 64) (by decide) (by omega) ?_ | refine LJr_c (by assumption) ?_)), ⟨h84_2, RC_z (by omega) h84_3 (by omega), (by obtain ⟨q1, q2, q3, q4, q5, q6, q7, q8, q9, q10⟩ := h84_5; exact ⟨q1, q2, q3, q4, q5, q6, q7, q8, q9, q10, h84_6, fun j j1 j2 => h84_3 j j1 (by omega)⟩)⟩⟩
            · skip
              refine zs_aload_n (pc := 90) C dX9_plain_90 rfl ?_
              refine zs_getf (pc := 91) C dX9_plain_91 w_X9_57 f_10_34 (by decide) ?_
              refine zs_iload_n (pc := 94) C dX9_plain_94 rfl ?_
              refine zs_iconst (pc := 95) C dX9_plain_95 (by decide) ?_
              refine zs_zast (r := 2071) (pc := 96) C dX9_plain_96 a_71 (by decide) (by omega) rfl (r_2071 _) (by omega) (by omega) ?_
              first | refine zs_iinc (pc := 97) C dX9_plain_97 rfl (by decide) (by omega) ?_ | refine zs_iincF (pc := 97) C dX9_plain_97 rfl (by decide) (fun z97 hz971 hz972 => ?_)
              dsimp only [zset, zclr, znone]
              refine zs_goto (tgt := 84) (pc := 100) C dX9_plain_100 (by decide) ?_
              exact zs_wk (ih84 _ _ (by omega) (by repeat (first | exact zsm_rf | assumption | refine zsm_C (by decide) ?_ | refine zsm_I (by decide) ?_ | refine zsm_J ?_ | refine zsm_c (by assumption) (by decide) ?_)) (MI_h71 (by omega) h84_2) (LZ_s (by omega) h84_3) (by first | omega | (simp only [zuI_1, zuI_2, zuJ_1, zuJ_2, zuJ_3, zuP_1, zuP_2, zuP_3, zuC_1, zuC_2, reduceIte, Nat.reduceEqDiff, false_and, and_false, true_and, and_true, and_self, or_true, true_or, or_false, false_or]; omega)) (by simp (disch := decide) only [zuI_nf]; exact h84_5) (fun j hj => by rw [zuI_nf (by decide)]; exact h84_6 j hj) (by with_reducible repeat (first | exact LJr_rf | assumption | refine LJr_I (h := 0) (by decide) (Nat.zero_le _) ?_ | refine LJr_I (h := 3) (by decide) (by omega) ?_ | refine LJr_I (h := 4) (by decide) (by omega) ?_ | refine LJr_I (h := 5) (by decide) (by omega) ?_ | refine LJr_I (h := 7) (by decide) (by omega) ?_ | refine LJr_I (h := 20) (by decide) (by omega) ?_ | refine LJr_I (h := 64) (by decide) (by omega) ?_ | refine LJr_c (by assumption) ?_)) (by first | omega | (simp only [zuI_1, zuI_2, zuJ_1, zuJ_2, zuJ_3, zuP_1, zuP_2, zuP_3, zuC_1, zuC_2, reduceIte, Nat.reduceEqDiff, false_and, and_false, true_and, and_true, and_self, or_true, true_or, or_false, false_or]; omega))) (zwk_s rfl (zwk_s rfl zwk_0))
        exact zs_wk (L84 _ _ _ (by omega) (by repeat (first | exact zsm_rf | assumption | refine zsm_C (by decide) ?_ | refine zsm_I (by decide) ?_ | refine zsm_J ?_ | refine zsm_c (by assumption) (by decide) ?_)) (by repeat (first | assumption | refine MI_I (by decide) ?_ | refine MI_J ?_ | refine MI_sm (by assumption) (by decide) ?_ | refine MI_sn (by assumption) (by decide) ?_)) LZ_0 (by have q1 := zsm_at h63_1 1045 w 0 (by decide); have q2 := zsm_at h63_1 1021 w 0 (by decide); omega) (by rw [h63_1.1 1017 (by decide), h63_1.1 1018 (by decide), h63_1.1 1019 (by decide), h63_1.1 1020 (by decide), h63_1.1 1021 (by decide), h63_1.1 1045 (by decide), h63_1.1 2059 (by decide)]; exact hh4) (fun j hj => h63_2 j (by omega)) (by with_reducible repeat (first | exact LJr_rf | assumption | refine LJr_I (h := 0) (by decide) (Nat.zero_le _) ?_ | refine LJr_I (h := 3) (by decide) (by omega) ?_ | refine LJr_I (h := 4) (by decide) (by omega) ?_ | refine LJr_I (h := 5) (by decide) (by omega) ?_ | refine LJr_I (h := 7) (by decide) (by omega) ?_ | refine LJr_I (h := 20) (by decide) (by omega) ?_ | refine LJr_I (h := 64) (by decide) (by omega) ?_ | refine LJr_c (by assumption) ?_)) (Nat.lt_succ_self _)) (zwk_s rfl (zwk_s rfl zwk_0))
      · skip
        refine zs_aload_n (pc := 68) C dX9_plain_68 rfl ?_
        refine zs_getf (pc := 69) C dX9_plain_69 w_X9_23 f_10_23 (by decide) ?_
        refine zs_iload_n (pc := 72) C dX9_plain_72 rfl ?_
        refine zs_iconst (pc := 73) C dX9_plain_73 (by decide) ?_
        refine zs_zast (r := 2060) (pc := 74) C dX9_plain_74 a_60 (by decide) (by omega) rfl (r_2060 _) (by omega) (by omega) ?_
        first | refine zs_iinc (pc := 75) C dX9_plain_75 rfl (by decide) (by omega) ?_ | refine zs_iincF (pc := 75) C dX9_plain_75 rfl (by decide) (fun z75 hz751 hz752 => ?_)
        dsimp only [zset, zclr, znone]
        refine zs_goto (tgt := 63) (pc := 78) C dX9_plain_78 (by decide) ?_
        exact zs_wk (ih63 _ _ (by omega) (by repeat (first | exact zsm_rf | assumption | refine zsm_C (by decide) ?_ | refine zsm_I (by decide) ?_ | refine zsm_J ?_ | refine zsm_c (by assumption) (by decide) ?_)) (fun j hj => by simp only [zuI_1, zuI_2, zuJ_1, zuJ_2, zuJ_3, zuP_1, zuP_2, zuP_3, zuC_1, zuC_2, reduceIte, Nat.reduceEqDiff, false_and, and_false, true_and, and_true, and_self, or_true, true_or, or_false, false_or]; by_cases q : j = x1.toNat; (rw [if_pos q]); (rw [if_neg q]; exact h63_2 j (by omega))) (by with_reducible repeat (first | exact LJr_rf | assumption | refine LJr_I (h := 0) (by decide) (Nat.zero_le _) ?_ | refine LJr_I (h := 3) (by decide) (by omega) ?_ | refine LJr_I (h := 4) (by decide) (by omega) ?_ | refine LJr_I (h := 5) (by decide) (by omega) ?_ | refine LJr_I (h := 7) (by decide) (by omega) ?_ | refine LJr_I (h := 20) (by decide) (by omega) ?_ | refine LJr_I (h := 64) (by decide) (by omega) ?_ | refine LJr_c (by assumption) ?_)) (by first | omega | (simp only [zuI_1, zuI_2, zuJ_1, zuJ_2, zuJ_3, zuP_1, zuP_2, zuP_3, zuC_1, zuC_2, reduceIte, Nat.reduceEqDiff, false_and, and_false, true_and, and_true, and_self, or_true, true_or, or_false, false_or]; omega))) (zwk_s rfl (zwk_s rfl zwk_0))
  exact zs_wk (L63 _ _ _ (by omega) zsm_rf (fun j hj => by omega) (by with_reducible repeat (first | exact LJr_rf | assumption | refine LJr_I (h := 0) (by decide) (Nat.zero_le _) ?_ | refine LJr_I (h := 3) (by decide) (by omega) ?_ | refine LJr_I (h := 4) (by decide) (by omega) ?_ | refine LJr_I (h := 5) (by decide) (by omega) ?_ | refine LJr_I (h := 7) (by decide) (by omega) ?_ | refine LJr_I (h := 20) (by decide) (by omega) ?_ | refine LJr_I (h := 64) (by decide) (by omega) ?_ | refine LJr_c (by assumption) ?_)) (Nat.lt_succ_self _)) (zwk_s rfl (zwk_s rfl zwk_0))
end
section
/-! a part of the world, by types -/
def zre (P : Nat → Bool) (Γ : zΓ) : zΓ := (fun a => if P (Γ.1 a) = true then Γ.1 a else 0, Γ.2.1, Γ.2.2.1, Γ.2.2.2.1, Γ.2.2.2.2.1.filter (fun a => P (Γ.1 a)), Γ.2.2.2.2.2)
def zmx (P : Nat → Bool) (Γ : zΓ) (G' G : zH) : zH := (fun r a i => if P (Γ.1 a) = true then G'.1 r a i else G.1 r a i, fun r a i => if P (Γ.1 a) = true then G'.2.1 r a i else G.2.1 r a i, fun r a => if P (Γ.1 a) = true then G'.2.2 r a else G.2.2 r a)
def zcls (P : Nat → Bool) : Prop := ∀ t : Nat, t < 11 → ∀ k : Nat, k < 91 → P t = true → ((zfk t k).1 = 2 ∨ (zfk t k).1 = 3) → P (zfk t k).2 = true
def cT (t : Nat) : Bool := decide (t ≤ 9) || (decide (11 ≤ t) && decide (t ≤ 56))
def rT (t : Nat) : Bool := !cT t
set_option maxRecDepth 100000 in
theorem cT_c : zcls cT := by unfold zcls; decide +kernel
set_option maxRecDepth 100000 in
theorem rT_c : zcls rT := by unfold zcls; decide +kernel
theorem zfk_91 {t k : Nat} (h : (zfk t k).1 = 2 ∨ (zfk t k).1 = 3) : t < 11 ∧ k < 91 := by
  obtain ⟨h1, h2, h3⟩ := zfk_lt (t := t) (k := k) (by omega)
  have h4 : zN t ≤ 91 := zt_cases (P := fun t => zN t ≤ 91) h1 h2 (by decide) (by decide) (by decide) (by decide) (by decide) (by decide) (by decide) (by decide) (by decide) (by decide)
  omega
set_option maxRecDepth 100000 in
theorem zfk_n0 : ∀ t : Nat, t < 11 → ∀ k : Nat, k < 91 → ((zfk t k).1 = 2 ∨ (zfk t k).1 = 3) → (zfk t k).2 ≠ 0 := by decide +kernel
theorem zre_1 {P : Nat → Bool} {Γ : zΓ} {a : Nat} (h : P (Γ.1 a) = true) : (zre P Γ).1 a = Γ.1 a := if_pos h
theorem zre_0 {P : Nat → Bool} {Γ : zΓ} {a : Nat} (h : ¬ P (Γ.1 a) = true) : (zre P Γ).1 a = 0 := if_neg h
theorem zre_n {P : Nat → Bool} {Γ : zΓ} {a t : Nat} (h : (zre P Γ).1 a = t) (h0 : t ≠ 0) : P (Γ.1 a) = true ∧ Γ.1 a = t := by
  by_cases q : P (Γ.1 a) = true
  · exact ⟨q, (zre_1 q).symm.trans h⟩
  · rw [zre_0 q] at h
    exact absurd h.symm h0
theorem zA_re {P : Nat → Bool} {Γ : zΓ} {a : Nat} (h : zA (zre P Γ) a) : zA Γ a := fun q => h (by
  show (if P (Γ.1 a) = true then Γ.1 a else 0) = 0
  rw [q]
  split <;> rfl)
theorem zLok_re {P : Nat → Bool} (hP : zcls P) {Γ : zΓ} (h : zLok Γ) : zLok (zre P Γ) := by
  obtain ⟨h1, h2, h3⟩ := h
  refine ⟨h1.filter _, fun a => ?_, fun t k a ht hk => ?_⟩
  · show a ∈ Γ.2.2.2.2.1.filter _ ↔ _
    rw [List.mem_filter, h2 a]
    show Γ.1 a ≠ 0 ∧ P (Γ.1 a) = true ↔ (if P (Γ.1 a) = true then Γ.1 a else 0) ≠ 0
    by_cases q : P (Γ.1 a) = true
    · rw [if_pos q]; exact ⟨fun z => z.1, fun z => ⟨z, q⟩⟩
    · rw [if_neg q]; exact ⟨fun z => absurd z.2 q, fun z => absurd rfl z⟩
  · obtain ⟨b1, b2⟩ := zfk_91 (Or.inl hk)
    have t0 : t ≠ 0 := by
      rintro rfl
      have : (zfk 0 k).1 = 9 := rfl
      omega
    obtain ⟨q1, q2⟩ := zre_n ht t0
    have e := h3 t k a q2 hk
    show (zre P Γ).1 (Γ.2.1 a k) = _
    rw [zre_1 (by rw [e]; exact hP t b1 k b2 (by rw [← q2]; exact q1) (Or.inl hk))]
    exact e
theorem zG_re {P : Nat → Bool} (hP : zcls P) {Γ : zΓ} {G : zH} (h : zG Γ G) : zG (zre P Γ) G := by
  refine ⟨h.1, h.2.1, fun t k a ht hk => ?_⟩
  obtain ⟨b1, b2⟩ := zfk_91 (Or.inr hk)
  have t0 : t ≠ 0 := by
    rintro rfl
    have : (zfk 0 k).1 = 9 := rfl
    omega
  obtain ⟨q1, q2⟩ := zre_n ht t0
  have e := h.2.2 t k a q2 hk
  rw [zre_1 (by rw [e]; exact hP t b1 k b2 (by rw [← q2]; exact q1) (Or.inr hk))]
  exact e
theorem zG_mx {P : Nat → Bool} {Γ : zΓ} {G G' : zH} (h : zG Γ G) (h' : zG (zre P Γ) G') : zG Γ (zmx P Γ G' G) := by
  refine ⟨fun r a i => ?_, fun r a i => ?_, fun t k a ht hk => ?_⟩
  · show _ ≤ (if P (Γ.1 a) = true then G'.1 r a i else G.1 r a i) ∧ (if P (Γ.1 a) = true then G'.1 r a i else G.1 r a i) ≤ _
    split
    · exact h'.1 r a i
    · exact h.1 r a i
  · show _ ≤ (if P (Γ.1 a) = true then G'.2.1 r a i else G.2.1 r a i) ∧ (if P (Γ.1 a) = true then G'.2.1 r a i else G.2.1 r a i) ≤ _
    split
    · exact h'.2.1 r a i
    · exact h.2.1 r a i
  · obtain ⟨b1, b2⟩ := zfk_91 (Or.inr hk)
    show Γ.1 (if P (Γ.1 a) = true then G'.2.2 (100 * t + k) a else G.2.2 (100 * t + k) a) = _
    by_cases q : P (Γ.1 a) = true
    · rw [if_pos q]
      exact (zre_n (h'.2.2 t k a ((zre_1 q).trans ht) hk) (zfk_n0 t b1 k b2 (Or.inr hk))).2
    · rw [if_neg q]
      exact h.2.2 t k a ht hk
theorem va_P_of {D : va_G} {cl : List vw_C} {L : List Nat} {f : Nat → va_E} {H : Heap} (h : ∀ a ∈ L, va_at D cl (a, f a) H) : va_P D cl (va_pl L f) H := fun k q hk => by
  obtain ⟨a, ha, rfl⟩ := List.mem_map.mp (List.mem_of_getElem? hk)
  exact h a ha
theorem va_P_at {D : va_G} {cl : List vw_C} {L : List Nat} {f : Nat → va_E} {H : Heap} (h : va_P D cl (va_pl L f) H) {a : Nat} (ha : a ∈ L) : va_at D cl (a, f a) H := by
  obtain ⟨k, hk⟩ := List.getElem?_of_mem (List.mem_map.mpr ⟨a, ha, rfl⟩ : (a, f a) ∈ va_pl L f)
  exact h k _ hk
theorem zE_re {P : Nat → Bool} {Γ : zΓ} {G : zH} {a : Nat} (h : P (Γ.1 a) = true) : zE (zre P Γ) G a = zE Γ G a := by
  have e1 : (zre P Γ).1 a = Γ.1 a := zre_1 h
  have e3 : (zre P Γ).2.2.1 = Γ.2.2.1 := rfl
  unfold zE
  rw [e1, e3]
  rfl
theorem zMet_re {P : Nat → Bool} (hP : zcls P) {l : Launch} {Γ : zΓ} {y : MethodName} {b : ByteArray} {mx lv : Nat} {ret : Option FieldType} {av : List zV} {G : zH} {post : Option zV → zH → Prop} (hav : ∀ x ∈ av, zk Γ x → zk (zre P Γ) x) (h : zMet l (zre P Γ) y b mx ret lv av G post) : zMet l Γ y b mx ret lv av G (fun r G2 => ∃ G' : zH, post r G' ∧ G2 = zmx P Γ G' G) := by
  intro p e h1 h2 h3 s m args below h4 h5 h6 h7
  obtain ⟨a1, ⟨a2, aL, ⟨x1, x2, x3⟩, aN⟩, a3, a4, a5⟩ := h6
  have h6' : zPc (zre P Γ) av G args s := by
    refine ⟨a1, ⟨a2, zLok_re hP aL, ⟨?_, ?_, fun e9 he => ?_⟩, aN⟩, zG_re hP a3, fun x hx => hav x hx (a4 x hx), ?_⟩
    · obtain ⟨cf, kf, fi, f, a, cell, z1, z2, z3, z4, z5, z6, z7, z8⟩ := x1
      exact ⟨cf, kf, fi, f, a, cell, z1, z2, z3, z4, z5, z6, z7, fun q => z8 (zA_re q)⟩
    · obtain ⟨cf, kf, fi, f, a, cell, z1, z2, z3, z4, z5, z6, z7, z8⟩ := x2
      exact ⟨cf, kf, fi, f, a, cell, z1, z2, z3, z4, z5, z6, z7, fun q => z8 (zA_re q)⟩
    · obtain ⟨⟨cell, z1, z2, z3, z4, z5, z6, z7⟩, y2, y3⟩ := x3 e9 he
      exact ⟨⟨cell, z1, z2, z3, z4, z5, z6, fun q => z7 (zA_re q)⟩, y2, y3⟩
    · refine va_P_of (fun a ha => ?_)
      obtain ⟨m1, m2⟩ := List.mem_filter.mp (show a ∈ Γ.2.2.2.2.1.filter (fun a => P (Γ.1 a)) from ha)
      rw [zE_re m2]
      exact va_P_at a5 m1
  obtain ⟨n, o, k1, k2, k3, ⟨⟨⟨r, G', q1, q2, q3, q4, q5⟩, q6⟩, L9, q7, q8⟩⟩ := h p e h1 h2 h3 s m args below h4 h5 h6' h7
  refine ⟨n, o, k1, k2, k3, ⟨⟨⟨r, zmx P Γ G' G, q1, fun x hx => ?_, ⟨G', q3, rfl⟩, zG_mx a3 q4, va_P_of (fun a ha => ?_)⟩, q6.1, fun q hq hn => q6.2 q hq (fun z => hn (zA_re z))⟩, L9, q7, fun q hq => zA_re (q8 q hq)⟩⟩
  · have z := q2 x hx
    rcases x with x | x | ⟨t, a⟩
    · exact z
    · exact z
    · rcases z with ⟨z1, z2, z3⟩ | z
      · exact Or.inl ⟨z1, z2, (zre_n z3 z2).2⟩
      · exact Or.inr z
  · by_cases q : P (Γ.1 a) = true
    · have e : zE Γ (zmx P Γ G' G) a = zE (zre P Γ) G' a := by
        rw [zE_re q]
        exact zE_same (fun r i => if_pos q) (fun r i => if_pos q) (fun r => if_pos q)
      rw [e]
      exact va_P_at q5 (List.mem_filter.mpr ⟨ha, q⟩ : a ∈ Γ.2.2.2.2.1.filter (fun a => P (Γ.1 a)))
    · have e : zE Γ (zmx P Γ G' G) a = zE Γ G a := zE_same (fun r i => if_neg q) (fun r i => if_neg q) (fun r => if_neg q)
      rw [e]
      have z := va_P_at a5 ha
      exact z.kept (q6.2 a z.lt (fun z9 => z9 (zre_0 q)))
theorem zk_re {P : Nat → Bool} {Γ : zΓ} {av : List zV} (h : ∀ t a, zr t a ∈ av → t < 200 → P t = true) : ∀ x ∈ av, zk Γ x → zk (zre P Γ) x := fun x hx hk => by
  rcases x with x | x | ⟨t, a⟩
  · exact hk
  · exact hk
  · rcases hk with ⟨z1, z2, z3⟩ | z
    · exact Or.inl ⟨z1, z2, (zre_1 (by rw [z3]; exact h t a hx z1)).trans z3⟩
    · exact Or.inr z
theorem zMet_rei {P : Nat → Bool} (hP : zcls P) {l : Launch} {Γ : zΓ} {y : MethodName} {b : ByteArray} {mx lv : Nat} {ret : Option FieldType} {av : List zV} {G : zH} {post : Int → zH → Prop} (hav : ∀ t a, zr t a ∈ av → t < 200 → P t = true) (h : zMet l (zre P Γ) y b mx ret lv av G (zpi post)) : zMet l Γ y b mx ret lv av G (zpi (fun x G2 => ∃ G' : zH, post x G' ∧ G2 = zmx P Γ G' G)) :=
  zMet_mo (zMet_re hP (zk_re hav) h) (fun r G2 q => by
    obtain ⟨G', ⟨x, e, q1⟩, q2⟩ := q
    exact ⟨x, e, G', q1, q2⟩)
theorem zMet_rej {P : Nat → Bool} (hP : zcls P) {l : Launch} {Γ : zΓ} {y : MethodName} {b : ByteArray} {mx lv : Nat} {ret : Option FieldType} {av : List zV} {G : zH} {post : Int → zH → Prop} (hav : ∀ t a, zr t a ∈ av → t < 200 → P t = true) (h : zMet l (zre P Γ) y b mx ret lv av G (zpj post)) : zMet l Γ y b mx ret lv av G (zpj (fun x G2 => ∃ G' : zH, post x G' ∧ G2 = zmx P Γ G' G)) :=
  zMet_mo (zMet_re hP (zk_re hav) h) (fun r G2 q => by
    obtain ⟨G', ⟨x, e, q1⟩, q2⟩ := q
    exact ⟨x, e, G', q1, q2⟩)
end
section
/-! what a text without fault tells lies within bounds -/
def TBc (A : aS) : Prop := ∀ j : Nat, (j : Int) < A 4 2 → 0 ≤ A 9 j ∧ A 9 j ≤ 999 ∧ 1 ≤ A 10 j ∧ A 10 j ≤ 99 ∧ 0 ≤ A 11 j ∧ A 11 j ≤ 99
def TBd (A : aS) : Prop := ∀ j : Nat, j < 20 → (0 ≤ A 8 j ∧ A 8 j ≤ 9) ∧ (((j : Int) < 4 * A 4 1 ∧ (j : Int) % 4 < A 4 0) ∨ A 8 j = 0)
def TBn (A : aS) : Prop := 0 ≤ A 12 0 ∧ A 12 0 ≤ 9999 ∧ 1 ≤ A 13 0 ∧ A 13 0 ≤ 99 ∧ 0 ≤ A 14 0 ∧ A 14 0 ≤ 999 ∧ 0 ≤ A 15 0 ∧ A 15 0 ≤ 99999
def TBs (A : aS) : Prop := 0 ≤ A 4 0 ∧ A 4 0 ≤ 4 ∧ 0 ≤ A 4 1 ∧ A 4 1 ≤ 5 ∧ 0 ≤ A 4 2 ∧ A 4 2 ≤ 5 ∧ 0 ≤ A 4 3 ∧ A 4 3 ≤ 3
def TB (A : aS) : Prop := TBs A ∧ (∀ j : Nat, (j : Int) < A 4 0 → 0 ≤ A 6 j ∧ A 6 j ≤ 99) ∧ (∀ j : Nat, (j : Int) < A 4 1 → 0 ≤ A 7 j ∧ A 7 j ≤ 100) ∧ TBd A ∧ TBc A ∧ TBn A
theorem TB_of {A B : aS} (h : ∀ f j : Nat, f = 4 ∨ (6 ≤ f ∧ f ≤ 15) → B f j = A f j) (hA : TB A) : TB B := by
  obtain ⟨h1, h2, h3, h4, h5, h6⟩ := hA
  have e4 : ∀ j, B 4 j = A 4 j := fun j => h 4 j (Or.inl rfl)
  refine ⟨?_, fun j hj => ?_, fun j hj => ?_, fun j hj => ?_, fun j hj => ?_, ?_⟩
  · unfold TBs at *; rw [e4, e4, e4, e4]; exact h1
  · rw [e4] at hj; rw [h 6 j (by omega)]; exact h2 j hj
  · rw [e4] at hj; rw [h 7 j (by omega)]; exact h3 j hj
  · rw [h 8 j (by omega), e4, e4]; exact h4 j hj
  · rw [e4] at hj; rw [h 9 j (by omega), h 10 j (by omega), h 11 j (by omega)]; exact h5 j hj
  · unfold TBn at *; rw [h 12 0 (by omega), h 13 0 (by omega), h 14 0 (by omega), h 15 0 (by omega)]; exact h6
theorem tbFail_o {b : Nat → Int} {n c : Int} {A : aS} {f j : Nat} (h1 : f ≠ 1) (h2 : f ≠ 2) : (sFail b n c A) f j = A f j := by
  unfold sFail
  split
  · rw [up_f h2, up_f h1]
  · rfl
theorem tbNumB_no {b : Nat → Int} {n : Int} {A : aS} (h : A 1 0 ≠ 0) : (sNumB b n A) 1 0 ≠ 0 := by
  unfold sNumB
  rw [if_neg h]
  exact h
theorem tbNum_ok {b : Nat → Int} {n lo hi : Int} {A : aS} (h : (sNum b n lo hi A) 1 0 = 0) : A 1 0 = 0 ∧ lo ≤ sNumV b n lo hi A ∧ sNumV b n lo hi A ≤ hi ∧ ∀ f j : Nat, f ≠ 0 → (sNum b n lo hi A) f j = A f j := by
  unfold sNum at h ⊢
  by_cases q : tK b n A ≠ 3
  · rw [if_pos q] at h
    exact absurd h (tbNumB_no (sFail_f (by decide)))
  rw [if_neg q] at h ⊢
  by_cases q2 : tV b n A < lo ∨ hi < tV b n A
  · rw [if_pos q2] at h
    exact absurd h (tbNumB_no (sFail_f (by decide)))
  rw [if_neg q2] at h ⊢
  unfold sNumB at h ⊢
  by_cases q3 : A 1 0 = 0
  · rw [if_pos q3]
    unfold sNumV
    rw [if_neg (by rintro (z | z | z | z); exact q z; omega; omega; exact z q3)]
    exact ⟨q3, by omega, by omega, fun f j hf => sNext_f hf⟩
  · rw [if_neg q3] at h
    exact absurd h q3
theorem tbNew_ok {b : Nat → Int} {n kd : Int} {A : aS} (h : (sNew b n kd A) 1 0 = 0) : A 1 0 = 0 ∧ A 4 kd.toNat < mst kd ∧ sNewV b n kd A = A 4 kd.toNat ∧ ∀ f j : Nat, f ≠ 0 → f ≠ 5 → (sNew b n kd A) f j = if f = 4 ∧ j = kd.toNat then A 4 kd.toNat + 1 else A f j := by
  unfold sNew at h ⊢
  by_cases q : mst kd ≤ A 4 kd.toNat
  · rw [if_pos q] at h
    exact absurd h (sFail_f (by decide))
  rw [if_neg q] at h ⊢
  by_cases q2 : tK b n (sNext b n A) ≠ 1
  · rw [if_pos q2] at h
    exact absurd h (sFail_f (by decide))
  rw [if_neg q2] at h ⊢
  by_cases q3 : sFind kd (tV b n (sNext b n A)) (sNext b n A) ≠ -1
  · rw [if_pos q3] at h
    exact absurd h (sFail_f (by decide))
  rw [if_neg q3] at h ⊢
  have e4 : ∀ j, (sNext b n A) 4 j = A 4 j := fun j => sNext_f (by decide)
  have ea : ∀ f j : Nat, f ≠ 0 → f ≠ 5 → (sAdd kd (tV b n (sNext b n A)) (sNext b n A)) f j = if f = 4 ∧ j = kd.toNat then A 4 kd.toNat + 1 else A f j := fun f j h0 h5 => by
    unfold sAdd
    rw [e4, if_neg q]
    by_cases z : f = 4 ∧ j = kd.toNat
    · obtain ⟨rfl, rfl⟩ := z
      rw [up_eq, if_pos ⟨rfl, rfl⟩]
    · rw [if_neg z]
      show (if f = 4 ∧ j = kd.toNat then _ else _) = _
      rw [if_neg z, up_f h5]
      exact sNext_f h0
  refine ⟨?_, by omega, ?_, fun f j h0 h5 => (sNext_f h0).trans (ea f j h0 h5)⟩
  · rw [sNext_f (by decide), ea 1 0 (by decide) (by decide), if_neg (fun z => absurd z.1 (by decide))] at h
    exact h
  · unfold sNewV
    rw [if_neg (by rintro (z | z | z); exact q z; exact q2 z; exact q3 z)]
theorem tbOnce_ok {b : Nat → Int} {n lo hi : Int} {A : aS} (h : (sOnce b n lo hi A) 1 0 = 0) : lo ≤ sOnceV b n lo hi A ∧ sOnceV b n lo hi A ≤ hi ∧ ∀ f j : Nat, f ≠ 0 → f ≠ 3 → (sOnce b n lo hi A) f j = A f j := by
  unfold sOnce sOnceV at *
  by_cases q : band (A 3 0) (bshl 1 (tW b n A)) ≠ 0
  · rw [if_pos q] at h
    exact absurd h (sFail_f (by decide))
  rw [if_neg q] at h ⊢
  rw [if_neg q]
  obtain ⟨h1, h2, h3, h4⟩ := tbNum_ok h
  refine ⟨h2, h3, fun f j h0 h9 => (h4 f j h0).trans ?_⟩
  unfold sOnB
  rw [sNext_f h0, up_f h9]
theorem tbFnd_in {f : Nat → Int} {q c : Int} : ∀ (m : Nat) (k : Int), fndn f q c m k = -1 ∨ (k ≤ fndn f q c m k ∧ fndn f q c m k < k + m)
  | 0, k => Or.inl rfl
  | m + 1, k => by
    have h := tbFnd_in (f := f) (q := q) (c := c) m (k + 1)
    rw [fndn]
    split
    · exact Or.inr ⟨by omega, by omega⟩
    · omega
theorem tbMst : mst 0 = 4 ∧ mst 1 = 5 ∧ mst 2 = 5 ∧ mst 3 = 3 := by decide
theorem TB_deed {b : Nat → Int} {n p : Int} {A : aS} (hA : TB A) (hp : 0 ≤ p ∧ p < A 4 1) (h : (sDeed b n p A) 1 0 = 0) : TB (sDeed b n p A) ∧ (sDeed b n p A) 4 1 = A 4 1 := by
  unfold sDeed at h ⊢
  by_cases q : tK b n A ≠ 1
  · rw [if_pos q] at h
    exact absurd h (sFail_f (by decide))
  rw [if_neg q] at h ⊢
  by_cases q2 : sFind 0 (tV b n A) A = -1
  · rw [if_pos q2] at h
    exact absurd h (sFail_f (by decide))
  rw [if_neg q2] at h ⊢
  by_cases q3 : A 8 (p * 4 + sFind 0 (tV b n A) A).toNat ≠ 0
  · rw [if_pos q3] at h
    exact absurd h (sFail_f (by decide))
  rw [if_neg q3] at h ⊢
  rw [up_f (by decide)] at h
  obtain ⟨-, v1, v2, hf⟩ := tbNum_ok h
  have hs := (tbFnd_in (f := A 5) (q := 0 * 5) (c := tV b n A) (A 4 (0 : Int).toNat).toNat 0).resolve_left q2
  have hse : fndn (A 5) (0 * 5) (tV b n A) (A 4 (0 : Int).toNat).toNat 0 = sFind 0 (tV b n A) A := rfl
  rw [hse] at hs
  have hs2 : sFind 0 (tV b n A) A < A 4 0 := by
    have e9 : (0 : Int).toNat = 0 := rfl
    rw [e9] at hs
    omega
  generalize sFind 0 (tV b n A) A = s at *
  generalize sNumV b n 1 9 (sNext b n A) = v at *
  have e : ∀ f j : Nat, f ≠ 0 → (up (sNum b n 1 9 (sNext b n A)) 8 (p * 4 + s).toNat v) f j = if f = 8 ∧ j = (p * 4 + s).toNat then v else A f j := fun f j h0 => by
    show (if f = 8 ∧ j = (p * 4 + s).toNat then v else _) = _
    rw [hf f j h0, sNext_f h0]
  generalize up (sNum b n 1 9 (sNext b n A)) 8 (p * 4 + s).toNat v = B at *
  obtain ⟨h1, h2, h3, h4, h5, h6⟩ := hA
  have e9 : ∀ f j : Nat, f ≠ 0 → f ≠ 8 → B f j = A f j := fun f j h0 h8 => by rw [e f j h0, if_neg (fun z => h8 z.1)]
  refine ⟨⟨?_, fun j hj => ?_, fun j hj => ?_, fun j hj => ?_, fun j hj => ?_, ?_⟩, e9 4 1 (by decide) (by decide)⟩
  · unfold TBs at *; rw [e9 4 0 (by decide) (by decide), e9 4 1 (by decide) (by decide), e9 4 2 (by decide) (by decide), e9 4 3 (by decide) (by decide)]; exact h1
  · rw [e9 4 0 (by decide) (by decide)] at hj; rw [e9 6 j (by decide) (by decide)]; exact h2 j hj
  · rw [e9 4 1 (by decide) (by decide)] at hj; rw [e9 7 j (by decide) (by decide)]; exact h3 j hj
  · rw [e 8 j (by decide), e9 4 0 (by decide) (by decide), e9 4 1 (by decide) (by decide)]
    by_cases z : j = (p * 4 + s).toNat
    · rw [if_pos ⟨rfl, z⟩]
      unfold TBs at h1
      exact ⟨by omega, Or.inl ⟨by omega, by omega⟩⟩
    · rw [if_neg (fun y => z y.2)]; exact h4 j hj
  · rw [e9 4 2 (by decide) (by decide)] at hj; rw [e9 9 j (by decide) (by decide), e9 10 j (by decide) (by decide), e9 11 j (by decide) (by decide)]; exact h5 j hj
  · unfold TBn at *; rw [e9 12 0 (by decide) (by decide), e9 13 0 (by decide) (by decide), e9 14 0 (by decide) (by decide), e9 15 0 (by decide) (by decide)]; exact h6
theorem tbDeeds_no {b : Nat → Int} {n p : Int} {A : aS} (h : A 1 0 ≠ 0) : ∀ m : Nat, sDeeds b n p m A = A
  | 0 => rfl
  | m + 1 => by rw [sDeeds, if_neg (fun z => h z.1)]
theorem TB_next {b : Nat → Int} {n : Int} {A : aS} (h : TB A) : TB (sNext b n A) := TB_of (fun f j hf => sNext_f (by omega)) h
theorem TB_deeds {b : Nat → Int} {n p : Int} : ∀ (m : Nat) (A : aS), TB A → (0 ≤ p ∧ p < A 4 1) → (sDeeds b n p m A) 1 0 = 0 → TB (sDeeds b n p m A)
  | 0, _, h, _, _ => h
  | m + 1, A, h, hp, hf => by
    rw [sDeeds] at hf ⊢
    by_cases q : A 1 0 = 0 ∧ tW b n A = 2
    · rw [if_pos q] at hf ⊢
      by_cases q2 : (sDeed b n p (sNext b n A)) 1 0 = 0
      · have hp2 : 0 ≤ p ∧ p < (sNext b n A) 4 1 := by rw [sNext_f (by decide)]; exact hp
        obtain ⟨k1, k2⟩ := TB_deed (TB_next h) hp2 q2
        exact TB_deeds m _ k1 (by rw [k2]; exact hp2) hf
      · rw [tbDeeds_no q2] at hf
        exact absurd hf q2
    · rw [if_neg q]
      exact h
theorem TB_sin {b : Nat → Int} {n : Int} {A : aS} (hA : TB A) (h : (sSin b n A) 1 0 = 0) : TB (sSin b n A) := by
  unfold sSin at h ⊢
  by_cases q : (sNum b n 0 99 (sNew b n 0 A)) 1 0 = 0
  · rw [if_pos q]
    obtain ⟨k1, v1, v2, hf⟩ := tbNum_ok q
    obtain ⟨k2, km, kv, kf⟩ := tbNew_ok k1
    rw [kv]
    generalize sNumV b n 0 99 (sNew b n 0 A) = v at *
    have e : ∀ f j : Nat, f ≠ 0 → f ≠ 5 → (up (sNum b n 0 99 (sNew b n 0 A)) 6 (A 4 (0 : Int).toNat).toNat v) f j = if f = 6 ∧ j = (A 4 0).toNat then v else if f = 4 ∧ j = 0 then A 4 0 + 1 else A f j := fun f j h0 h5 => by
      show (if f = 6 ∧ j = (A 4 0).toNat then v else _) = _
      rw [hf f j h0, kf f j h0 h5]
      rfl
    generalize up (sNum b n 0 99 (sNew b n 0 A)) 6 (A 4 (0 : Int).toNat).toNat v = B at *
    have m0 := tbMst.1
    have km2 : A 4 0 < mst 0 := km
    have e40 : B 4 0 = A 4 0 + 1 := by rw [e 4 0 (by decide) (by decide), if_neg (fun z => absurd z.1 (by decide)), if_pos (by decide)]
    have e4 : ∀ j, j ≠ 0 → B 4 j = A 4 j := fun j hj => by rw [e 4 j (by decide) (by decide), if_neg (fun z => absurd z.1 (by decide)), if_neg (fun z => hj z.2)]
    have eo : ∀ f j, 7 ≤ f → B f j = A f j := fun f j h7 => by rw [e f j (by omega) (by omega), if_neg (fun z => by omega), if_neg (fun z => by omega)]
    obtain ⟨h1, h2, h3, h4, h5, h6⟩ := hA
    unfold TBs at h1
    refine ⟨?_, fun j hj => ?_, fun j hj => ?_, fun j hj => ?_, fun j hj => ?_, ?_⟩
    · unfold TBs; rw [e40, e4 1 (by decide), e4 2 (by decide), e4 3 (by decide)]; omega
    · rw [e40] at hj
      rw [e 6 j (by decide) (by decide)]
      by_cases z : j = (A 4 0).toNat
      · rw [if_pos ⟨rfl, z⟩]; exact ⟨v1, v2⟩
      · rw [if_neg (fun y => z y.2), if_neg (fun y => absurd y.1 (by decide))]; exact h2 j (by omega)
    · rw [e4 1 (by decide)] at hj; rw [eo 7 j (by decide)]; exact h3 j hj
    · rw [eo 8 j (by decide), e40, e4 1 (by decide)]
      have z := h4 j hj
      omega
    · rw [e4 2 (by decide)] at hj; rw [eo 9 j (by decide), eo 10 j (by decide), eo 11 j (by decide)]; exact h5 j hj
    · unfold TBn at *; rw [eo 12 0 (by decide), eo 13 0 (by decide), eo 14 0 (by decide), eo 15 0 (by decide)]; exact h6
  · rw [if_neg q] at h
    exact absurd h q
theorem TB_hon {b : Nat → Int} {n : Int} {A : aS} (hA : TB A) (h : (sHon b n A) 1 0 = 0) : TB (sHon b n A) ∧ sNewV b n 1 A = A 4 1 ∧ (sHon b n A) 4 1 = A 4 1 + 1 := by
  unfold sHon at h ⊢
  by_cases q : (sNum b n 0 100 (sNew b n 1 A)) 1 0 = 0
  · rw [if_pos q]
    obtain ⟨k1, v1, v2, hf⟩ := tbNum_ok q
    obtain ⟨k2, km, kv, kf⟩ := tbNew_ok k1
    rw [kv]
    generalize sNumV b n 0 100 (sNew b n 1 A) = v at *
    have e : ∀ f j : Nat, f ≠ 0 → f ≠ 5 → (up (sNum b n 0 100 (sNew b n 1 A)) 7 (A 4 (1 : Int).toNat).toNat v) f j = if f = 7 ∧ j = (A 4 1).toNat then v else if f = 4 ∧ j = 1 then A 4 1 + 1 else A f j := fun f j h0 h5 => by
      show (if f = 7 ∧ j = (A 4 1).toNat then v else _) = _
      rw [hf f j h0, kf f j h0 h5]
      rfl
    generalize up (sNum b n 0 100 (sNew b n 1 A)) 7 (A 4 (1 : Int).toNat).toNat v = B at *
    have m0 := tbMst.2.1
    have km2 : A 4 1 < mst 1 := km
    have e41 : B 4 1 = A 4 1 + 1 := by rw [e 4 1 (by decide) (by decide), if_neg (fun z => absurd z.1 (by decide)), if_pos (by decide)]
    have e4 : ∀ j, j ≠ 1 → B 4 j = A 4 j := fun j hj => by rw [e 4 j (by decide) (by decide), if_neg (fun z => absurd z.1 (by decide)), if_neg (fun z => hj z.2)]
    have eo : ∀ f j, 6 ≤ f → f ≠ 7 → B f j = A f j := fun f j h7 h8 => by rw [e f j (by omega) (by omega), if_neg (fun z => h8 z.1), if_neg (fun z => by omega)]
    obtain ⟨h1, h2, h3, h4, h5, h6⟩ := hA
    unfold TBs at h1
    refine ⟨⟨?_, fun j hj => ?_, fun j hj => ?_, fun j hj => ?_, fun j hj => ?_, ?_⟩, rfl, e41⟩
    · unfold TBs; rw [e41, e4 0 (by decide), e4 2 (by decide), e4 3 (by decide)]; omega
    · rw [e4 0 (by decide)] at hj; rw [eo 6 j (by decide) (by decide)]; exact h2 j hj
    · rw [e41] at hj
      rw [e 7 j (by decide) (by decide)]
      by_cases z : j = (A 4 1).toNat
      · rw [if_pos ⟨rfl, z⟩]; exact ⟨v1, v2⟩
      · rw [if_neg (fun y => z y.2), if_neg (fun y => absurd y.1 (by decide))]; exact h3 j (by omega)
    · rw [eo 8 j (by decide) (by decide), e41, e4 0 (by decide)]
      have z := h4 j hj
      omega
    · rw [e4 2 (by decide)] at hj; rw [eo 9 j (by decide) (by decide), eo 10 j (by decide) (by decide), eo 11 j (by decide) (by decide)]; exact h5 j hj
    · unfold TBn at *; rw [eo 12 0 (by decide) (by decide), eo 13 0 (by decide) (by decide), eo 14 0 (by decide) (by decide), eo 15 0 (by decide) (by decide)]; exact h6
  · rw [if_neg q] at h
    exact absurd h q
theorem TB_person {b : Nat → Int} {n : Int} {A : aS} (hA : TB A) (h : (sPerson b n A) 1 0 = 0) : TB (sPerson b n A) := by
  unfold sPerson at h ⊢
  by_cases q : (sHon b n A) 1 0 = 0
  · obtain ⟨k1, k2, k3⟩ := TB_hon hA q
    have h1 := hA.1
    unfold TBs at h1
    exact TB_deeds 700 _ k1 (by rw [k2, k3]; omega) h
  · rw [tbDeeds_no q] at h
    exact absurd h q
theorem TB_cake {b : Nat → Int} {n : Int} {A : aS} (hA : TB A) (h : (sCake b n A) 1 0 = 0) : TB (sCake b n A) := by
  unfold sCake at h ⊢
  by_cases q : (sC3 b n A) 1 0 = 0
  · rw [if_pos q]
    have q3 : (sNum b n 0 99 (sC2 b n A)) 1 0 = 0 := q
    obtain ⟨q2, v5, v6, hf3⟩ := tbNum_ok q3
    have q2b : (sNum b n 1 99 (sC1 b n A)) 1 0 = 0 := q2
    obtain ⟨q1, v3, v4, hf2⟩ := tbNum_ok q2b
    have q1b : (sNum b n 0 999 (sNew b n 2 A)) 1 0 = 0 := q1
    obtain ⟨k1, v1, v2, hf1⟩ := tbNum_ok q1b
    obtain ⟨k2, km, kv, kf⟩ := tbNew_ok k1
    rw [kv]
    generalize sNumV b n 0 999 (sNew b n 2 A) = v at *
    generalize sNumV b n 1 99 (sC1 b n A) = u at *
    generalize sNumV b n 0 99 (sC2 b n A) = t at *
    have ec : ∀ f j : Nat, f ≠ 0 → f ≠ 5 → (sC3 b n A) f j = if f = 4 ∧ j = 2 then A 4 2 + 1 else A f j := fun f j h0 h5 => by
      have z3 : (sC3 b n A) f j = (sC2 b n A) f j := hf3 f j h0
      have z2 : (sC2 b n A) f j = (sC1 b n A) f j := hf2 f j h0
      have z1 : (sC1 b n A) f j = (sNew b n 2 A) f j := hf1 f j h0
      rw [z3, z2, z1, kf f j h0 h5]
      rfl
    have e : ∀ f j : Nat, f ≠ 0 → f ≠ 5 → (up (up (up (sC3 b n A) 9 (A 4 (2 : Int).toNat).toNat v) 10 (A 4 (2 : Int).toNat).toNat u) 11 (A 4 (2 : Int).toNat).toNat t) f j = if f = 11 ∧ j = (A 4 2).toNat then t else if f = 10 ∧ j = (A 4 2).toNat then u else if f = 9 ∧ j = (A 4 2).toNat then v else if f = 4 ∧ j = 2 then A 4 2 + 1 else A f j := fun f j h0 h5 => by
      show (if f = 11 ∧ j = (A 4 2).toNat then t else if f = 10 ∧ j = (A 4 2).toNat then u else if f = 9 ∧ j = (A 4 2).toNat then v else _) = _
      rw [ec f j h0 h5]
    generalize up (up (up (sC3 b n A) 9 (A 4 (2 : Int).toNat).toNat v) 10 (A 4 (2 : Int).toNat).toNat u) 11 (A 4 (2 : Int).toNat).toNat t = B at *
    have m0 := tbMst.2.2.1
    have km2 : A 4 2 < mst 2 := km
    have e42 : B 4 2 = A 4 2 + 1 := by rw [e 4 2 (by decide) (by decide), if_neg (fun z => absurd z.1 (by decide)), if_neg (fun z => absurd z.1 (by decide)), if_neg (fun z => absurd z.1 (by decide)), if_pos (by decide)]
    have eo : ∀ f j, f ≠ 0 → f ≠ 5 → (f ≠ 4 ∨ j ≠ 2) → (f < 9 ∨ 11 < f) → B f j = A f j := fun f j h0 h5 h4 h9 => by rw [e f j h0 h5, if_neg (by omega), if_neg (by omega), if_neg (by omega), if_neg (by omega)]
    obtain ⟨h1, h2, h3, h4, h5, h6⟩ := hA
    unfold TBs at h1
    refine ⟨?_, fun j hj => ?_, fun j hj => ?_, fun j hj => ?_, fun j hj => ?_, ?_⟩
    · unfold TBs; rw [e42, eo 4 0 (by omega) (by omega) (by omega) (by omega), eo 4 1 (by omega) (by omega) (by omega) (by omega), eo 4 3 (by omega) (by omega) (by omega) (by omega)]; omega
    · rw [eo 4 0 (by omega) (by omega) (by omega) (by omega)] at hj; rw [eo 6 j (by omega) (by omega) (by omega) (by omega)]; exact h2 j hj
    · rw [eo 4 1 (by omega) (by omega) (by omega) (by omega)] at hj; rw [eo 7 j (by omega) (by omega) (by omega) (by omega)]; exact h3 j hj
    · rw [eo 8 j (by omega) (by omega) (by omega) (by omega), eo 4 0 (by omega) (by omega) (by omega) (by omega), eo 4 1 (by omega) (by omega) (by omega) (by omega)]; exact h4 j hj
    · rw [e42] at hj
      have f9 := e 9 j (by decide) (by decide)
      have f10 := e 10 j (by decide) (by decide)
      have f11 := e 11 j (by decide) (by decide)
      rw [if_neg (by omega), if_neg (by omega)] at f9
      rw [if_neg (by omega)] at f10
      by_cases z : j = (A 4 2).toNat
      · rw [if_pos ⟨rfl, z⟩] at f9 f10 f11
        rw [f9, f10, f11]
        exact ⟨v1, v2, v3, v4, v5, v6⟩
      · rw [if_neg (fun y => z y.2), if_neg (by omega)] at f9
        rw [if_neg (fun y => z y.2), if_neg (by omega), if_neg (by omega)] at f10
        rw [if_neg (fun y => z y.2), if_neg (by omega), if_neg (by omega), if_neg (by omega)] at f11
        rw [f9, f10, f11]
        exact h5 j (by omega)
    · unfold TBn at *; rw [eo 12 0 (by omega) (by omega) (by omega) (by omega), eo 13 0 (by omega) (by omega) (by omega) (by omega), eo 14 0 (by omega) (by omega) (by omega) (by omega), eo 15 0 (by omega) (by omega) (by omega) (by omega)]; exact h6
  · rw [if_neg q] at h
    exact absurd h q
theorem TB_once {b : Nat → Int} {n lo hi : Int} {A : aS} {f : Nat} (hA : TB A) (hf : 12 ≤ f ∧ f ≤ 15) (h : (sOnce b n lo hi A) 1 0 = 0) (hv : ∀ v : Int, lo ≤ v → v ≤ hi → TBn (up A f 0 v)) : TB (up (sOnce b n lo hi A) f 0 (sOnceV b n lo hi A)) := by
  obtain ⟨v1, v2, ef⟩ := tbOnce_ok h
  have hn := hv _ v1 v2
  generalize sOnceV b n lo hi A = v at *
  have e : ∀ g j : Nat, g ≠ 0 → g ≠ 3 → (up (sOnce b n lo hi A) f 0 v) g j = (up A f 0 v) g j := fun g j h0 h3 => by
    show (if g = f ∧ j = 0 then v else _) = (if g = f ∧ j = 0 then v else _)
    rw [ef g j h0 h3]
  have e2 : ∀ g j : Nat, g ≠ 0 → g ≠ 3 → g < 12 → (up (sOnce b n lo hi A) f 0 v) g j = A g j := fun g j h0 h3 h12 => by rw [e g j h0 h3, up_f (by omega)]
  generalize up (sOnce b n lo hi A) f 0 v = B at *
  obtain ⟨h1, h2, h3, h4, h5, h6⟩ := hA
  refine ⟨?_, fun j hj => ?_, fun j hj => ?_, fun j hj => ?_, fun j hj => ?_, ?_⟩
  · unfold TBs at *; rw [e2 4 0 (by decide) (by decide) (by decide), e2 4 1 (by decide) (by decide) (by decide), e2 4 2 (by decide) (by decide) (by decide), e2 4 3 (by decide) (by decide) (by decide)]; exact h1
  · rw [e2 4 0 (by decide) (by decide) (by decide)] at hj; rw [e2 6 j (by decide) (by decide) (by decide)]; exact h2 j hj
  · rw [e2 4 1 (by decide) (by decide) (by decide)] at hj; rw [e2 7 j (by decide) (by decide) (by decide)]; exact h3 j hj
  · rw [e2 8 j (by decide) (by decide) (by decide), e2 4 0 (by decide) (by decide) (by decide), e2 4 1 (by decide) (by decide) (by decide)]; exact h4 j hj
  · rw [e2 4 2 (by decide) (by decide) (by decide)] at hj; rw [e2 9 j (by decide) (by decide) (by decide), e2 10 j (by decide) (by decide) (by decide), e2 11 j (by decide) (by decide) (by decide)]; exact h5 j hj
  · unfold TBn at *; rw [e 12 0 (by decide) (by decide), e 13 0 (by decide) (by decide), e 14 0 (by decide) (by decide), e 15 0 (by decide) (by decide)]; exact hn
theorem tbKind_f {b : Nat → Int} {n : Int} {A : aS} {f j : Nat} (hf : 3 ≤ f) : (sKind b n A) f j = A f j := by
  unfold sKind
  split
  · rw [tbFail_o (by omega) (by omega), sNext_f (by omega)]
  · split
    · rw [tbFail_o (by omega) (by omega), sNext_f (by omega)]
    · rw [sNext_f (by omega), sNext_f (by omega)]
theorem TB_line {b : Nat → Int} {n : Int} {A : aS} (hA : TB A) (hf : (sLine b n A) 1 0 = 0) : TB (sLine b n A) := by
  obtain ⟨hb, he⟩ := sSemi_0 hf
  refine TB_of (A := sBody b n A) (fun f j h => he f j (by omega)) ?_
  clear he hf
  have hN := hA.2.2.2.2.2
  unfold TBn at hN
  have hu : ∀ (f : Nat) (v : Int), (f = 12 → 0 ≤ v ∧ v ≤ 9999) → (f = 13 → 1 ≤ v ∧ v ≤ 99) → (f = 14 → 0 ≤ v ∧ v ≤ 999) → (f = 15 → 0 ≤ v ∧ v ≤ 99999) → TBn (up A f 0 v) := fun f v g1 g2 g3 g4 => by
    unfold TBn
    show 0 ≤ (if 12 = f ∧ 0 = 0 then v else A 12 0) ∧ (if 12 = f ∧ 0 = 0 then v else A 12 0) ≤ 9999 ∧ 1 ≤ (if 13 = f ∧ 0 = 0 then v else A 13 0) ∧ (if 13 = f ∧ 0 = 0 then v else A 13 0) ≤ 99 ∧ 0 ≤ (if 14 = f ∧ 0 = 0 then v else A 14 0) ∧ (if 14 = f ∧ 0 = 0 then v else A 14 0) ≤ 999 ∧ 0 ≤ (if 15 = f ∧ 0 = 0 then v else A 15 0) ∧ (if 15 = f ∧ 0 = 0 then v else A 15 0) ≤ 99999
    refine ⟨?_, ?_, ?_, ?_, ?_, ?_, ?_, ?_⟩ <;> (split <;> omega)
  unfold sBody at hb ⊢
  split at hb
  · rw [if_pos (by assumption)]; exact TB_sin hA hb
  rw [if_neg (by assumption)]
  split at hb
  · rw [if_pos (by assumption)]; exact TB_person hA hb
  rw [if_neg (by assumption)]
  split at hb
  · rw [if_pos (by assumption)]; exact TB_cake hA hb
  rw [if_neg (by assumption)]
  split at hb
  · rw [if_pos (by assumption)]; rw [up_f (by decide)] at hb; exact TB_once hA (by decide) hb (fun v h1 h2 => hu 12 v (fun _ => ⟨h1, h2⟩) (fun q => absurd q (by decide)) (fun q => absurd q (by decide)) (fun q => absurd q (by decide)))
  rw [if_neg (by assumption)]
  split at hb
  · rw [if_pos (by assumption)]; rw [up_f (by decide)] at hb; exact TB_once hA (by decide) hb (fun v h1 h2 => hu 13 v (fun q => absurd q (by decide)) (fun _ => ⟨h1, h2⟩) (fun q => absurd q (by decide)) (fun q => absurd q (by decide)))
  rw [if_neg (by assumption)]
  split at hb
  · rw [if_pos (by assumption)]; rw [up_f (by decide)] at hb; exact TB_once hA (by decide) hb (fun v h1 h2 => hu 14 v (fun q => absurd q (by decide)) (fun q => absurd q (by decide)) (fun _ => ⟨h1, h2⟩) (fun q => absurd q (by decide)))
  rw [if_neg (by assumption)]
  split at hb
  · rw [if_pos (by assumption)]; rw [up_f (by decide)] at hb; exact TB_once hA (by decide) hb (fun v h1 h2 => hu 15 v (fun q => absurd q (by decide)) (fun q => absurd q (by decide)) (fun q => absurd q (by decide)) (fun _ => ⟨h1, h2⟩))
  rw [if_neg (by assumption)]
  split at hb
  · rw [if_pos (by assumption)]
    exact TB_of (fun f j h => (sE_f (by omega) (by omega)).trans (tbKind_f (by omega))) hA
  rw [if_neg (by assumption)]
  split at hb
  · rw [if_pos (by assumption)]
    by_cases q : (sNew b n 3 A) 1 0 = 0
    · obtain ⟨k2, km, kv, kf⟩ := tbNew_ok q
      have m0 := tbMst.2.2.2
      have km2 : A 4 3 < mst 3 := km
      have e : ∀ f j : Nat, f = 4 ∨ (6 ≤ f ∧ f ≤ 15) → (sE b n (4 + sNewV b n 3 A) (sNew b n 3 A)) f j = if f = 4 ∧ j = 3 then A 4 3 + 1 else A f j := fun f j h => (sE_f (by omega) (by omega)).trans (kf f j (by omega) (by omega))
      generalize sE b n (4 + sNewV b n 3 A) (sNew b n 3 A) = B at *
      have e43 : B 4 3 = A 4 3 + 1 := by rw [e 4 3 (by omega), if_pos (by decide)]
      have eo : ∀ f j, (f = 4 ∨ (6 ≤ f ∧ f ≤ 15)) → (f ≠ 4 ∨ j ≠ 3) → B f j = A f j := fun f j h h4 => by rw [e f j h, if_neg (by omega)]
      obtain ⟨h1, h2, h3, h4, h5, h6⟩ := hA
      unfold TBs at h1
      refine ⟨?_, fun j hj => ?_, fun j hj => ?_, fun j hj => ?_, fun j hj => ?_, ?_⟩
      · unfold TBs; rw [e43, eo 4 0 (by omega) (by omega), eo 4 1 (by omega) (by omega), eo 4 2 (by omega) (by omega)]; omega
      · rw [eo 4 0 (by omega) (by omega)] at hj; rw [eo 6 j (by omega) (by omega)]; exact h2 j hj
      · rw [eo 4 1 (by omega) (by omega)] at hj; rw [eo 7 j (by omega) (by omega)]; exact h3 j hj
      · rw [eo 8 j (by omega) (by omega), eo 4 0 (by omega) (by omega), eo 4 1 (by omega) (by omega)]; exact h4 j hj
      · rw [eo 4 2 (by omega) (by omega)] at hj; rw [eo 9 j (by omega) (by omega), eo 10 j (by omega) (by omega), eo 11 j (by omega) (by omega)]; exact h5 j hj
      · unfold TBn at *; rw [eo 12 0 (by omega) (by omega), eo 13 0 (by omega) (by omega), eo 14 0 (by omega) (by omega), eo 15 0 (by omega) (by omega)]; exact h6
    · exact absurd (sE_ne hb) q
  rw [if_neg (by assumption)]
  exact absurd hb (sFail_f (by decide))
theorem TB_text {b : Nat → Int} {n : Int} : ∀ (m : Nat) (A : aS), TB A → (sLN b n m A) 1 0 = 0 → TB (sLN b n m A)
  | 0, _, h, _ => h
  | m + 1, A, h, hf => by
    rw [sLN] at hf ⊢
    by_cases q : A 1 0 = 0 ∧ tK b n A ≠ 0
    · rw [if_pos q] at hf ⊢
      by_cases q2 : (sLine b n A) 1 0 = 0
      · exact TB_text m _ (TB_line h q2) hf
      · rw [(sLN_e (fun z => q2 z.1) m 0).1] at hf
        exact absurd hf q2
    · rw [if_neg q]
      exact h
theorem TB_cl0 {A0 : aS} (hA : sCl A0) : TB A0 := by
  obtain ⟨a0, a1, a2, a3, a4, a8, a16, a20, a21, a12, a13, a14, a15⟩ := hA
  have z0 := a4 0 (by decide)
  have z1 := a4 1 (by decide)
  have z2 := a4 2 (by decide)
  have z3 := a4 3 (by decide)
  refine ⟨?_, fun j hj => ?_, fun j hj => ?_, fun j hj => ?_, fun j hj => ?_, ?_⟩
  · unfold TBs; omega
  · omega
  · omega
  · have q := a8 j hj
    exact ⟨by omega, Or.inr q⟩
  · omega
  · unfold TBn; omega
theorem TB_TA {A : aS} (h : TB A) (hw : WFA A) : TA A := by
  obtain ⟨h1, h2, h3, h4, h5, h6⟩ := h
  exact ⟨h1, h2, h3, fun j hj => (h4 j hj).1, h5, h6, hw⟩
/-- a text that was told without fault -/
theorem TA_cl {b : Nat → Int} {n : Int} {A0 : aS} (hn : 0 ≤ n ∧ n ≤ 700) (hA : sCl A0) (hf : (sLN b n 700 (sNext b n A0)) 1 0 = 0) : TA (sLN b n 700 (sNext b n A0)) ∧ TB (sLN b n 700 (sNext b n A0)) ∧ ∀ j : Nat, j < 20 → ¬ ((j : Int) < 4 * (sLN b n 700 (sNext b n A0)) 4 1 ∧ (j : Int) % 4 < (sLN b n 700 (sNext b n A0)) 4 0) → (sLN b n 700 (sNext b n A0)) 8 j = 0 := by
  have h := TB_text 700 _ (TB_next (b := b) (n := n) (TB_cl0 hA)) hf
  exact ⟨TB_TA h (WFA_cl hn hA hf), h, fun j hj hno => ((h.2.2.2.1 j hj).2).resolve_left hno⟩
/-- a text without lines -/
theorem WFA_0 {A0 : aS} (hA : sCl A0) : WFA A0 := by
  obtain ⟨a0, a1, a2, a3, a4, a8, a16, a20, a21, a12, a13, a14, a15⟩ := hA
  refine ⟨by omega, fun k hk q => ?_⟩
  have := a16 k hk
  omega
theorem WI_bg {A W : aS} (hT : TB A) (h : wBeg A W) : WI A W := by
  obtain ⟨h1, h2, h3, h4, h5, h6⟩ := hT
  obtain ⟨b0, b1, b2, b3, b4, b5, b6, b7⟩ := h
  unfold TBs at h1
  unfold TBn at h6
  refine ⟨by omega, fun k hk => by omega, fun j hj => ?_, fun p s hp hs => ?_, fun j hj => ?_, by omega, by omega, by omega, by omega, by omega⟩
  · have q := (h4 j hj).1
    have q2 := b1 j hj
    omega
  · have q := (h4 (p * 4 + s) (by omega)).2
    have q2 := b1 (p * 4 + s) (by omega)
    rcases q with z | z
    · exact Or.inl ⟨by omega, by omega⟩
    · exact Or.inr (by omega)
  · have q2 := b2 j hj
    have k0 := h4 (j * 4) (by omega)
    have k1 := h4 (j * 4 + 1) (by omega)
    have k2 := h4 (j * 4 + 2) (by omega)
    have k3 := h4 (j * 4 + 3) (by omega)
    have m0 := b1 (j * 4) (by omega)
    have m1 := b1 (j * 4 + 1) (by omega)
    have m2 := b1 (j * 4 + 2) (by omega)
    have m3 := b1 (j * 4 + 3) (by omega)
    omega
end
section
/-- a law that fits, as a number -/
noncomputable def wFI (A W : aS) (k : Int) : Int := @ite _ (wFt A W k (wKn W)) (Classical.propDecidable _) 1 0
theorem wFI_1 {A W : aS} {k : Int} : wFI A W k = 1 ↔ wFt A W k (wKn W) := by
  unfold wFI
  by_cases q : wFt A W k (wKn W)
  · rw [if_pos q]; exact ⟨fun _ => q, fun _ => rfl⟩
  · rw [if_neg q]; exact ⟨fun z => absurd z (by decide), fun z => absurd z q⟩
noncomputable def wFB (A W : aS) : Int := wBi (fun j => wFI A W (4 + (j : Int))) (A 4 3).toNat + (if wFI A W 0 = 1 then p2 (A 4 3).toNat else 0)
theorem wBi_s {P : Nat → Int} {k : Int} (h : 0 ≤ k) : wBi P (k + 1).toNat = wBi P k.toNat + (if P k.toNat = 1 then p2 k.toNat else 0) := by
  rw [show (k + 1).toNat = k.toNat + 1 by omega, wBi]
theorem wBi_in {P : Nat → Int} : ∀ m : Nat, m < 4 → 0 ≤ wBi P m ∧ wBi P m < p2 m
  | 0, _ => by show 0 ≤ (0 : Int) ∧ (0 : Int) < 1; decide
  | 1, _ => by
    rw [wBi, wBi]
    show 0 ≤ 0 + (if _ then (1 : Int) else 0) ∧ 0 + (if _ then (1 : Int) else 0) < 2
    split <;> omega
  | 2, _ => by
    rw [wBi, wBi, wBi]
    show 0 ≤ 0 + (if _ then (1 : Int) else 0) + (if _ then (2 : Int) else 0) ∧ 0 + (if _ then (1 : Int) else 0) + (if _ then (2 : Int) else 0) < 4
    (repeat' split) <;> omega
  | 3, _ => by
    rw [wBi, wBi, wBi, wBi]
    show 0 ≤ 0 + (if _ then (1 : Int) else 0) + (if _ then (2 : Int) else 0) + (if _ then (4 : Int) else 0) ∧ 0 + (if _ then (1 : Int) else 0) + (if _ then (2 : Int) else 0) + (if _ then (4 : Int) else 0) < 8
    (repeat' split) <;> omega
theorem wBi_f {A W : aS} {k : Int} (h : 0 ≤ k) : wBi (fun j => wFI A W (4 + (j : Int))) (k + 1).toNat = wBi (fun j => wFI A W (4 + (j : Int))) k.toNat + (if wFI A W (4 + k) = 1 then p2 k.toNat else 0) := by
  rw [wBi_s h]
  show _ + (if wFI A W (4 + ((k.toNat : Nat) : Int)) = 1 then _ else _) = _
  rw [show 4 + ((k.toNat : Nat) : Int) = 4 + k by omega]
theorem b1_n : ∀ v : Nat, v < 16 → ∀ s : Nat, s < 4 → band (bshr v s) 1 = 0 ∨ band (bshr v s) 1 = 1 := by decide +kernel
theorem b1_i {v s : Int} (hv : 0 ≤ v ∧ v ≤ 15) (hs : 0 ≤ s ∧ s ≤ 3) : band (bshr v s) 1 = 0 ∨ band (bshr v s) 1 = 1 := by
  have h := b1_n v.toNat (by omega) s.toNat (by omega)
  rwa [show ((v.toNat : Nat) : Int) = v by omega, show ((s.toNat : Nat) : Int) = s by omega] at h
theorem QQ_911 {Γ : zΓ} {w t a i : Nat} {A W : aS} {G : zH} {x : Int} (h : QQ Γ w t A W G) : QQ Γ w t A W (zuI G 911 a i x) := QQ_sm (rs := [911]) (zsm_I (by simp) zsm_rf) (by decide) (by decide +kernel) h
theorem wKn_in {A W : aS} (hW : WI A W) : 0 ≤ wKn W ∧ wKn W ≤ W 0 0 := by
  have h0 := hW.1
  have h22 := hW.2.2.2.2.2.2.2.2.2
  unfold wKn
  split <;> omega
theorem rQ_22 {Γ : zΓ} {w : Nat} {n v : Int} {W : aS} {G : zH} (h : rQ Γ w W G n) : rQ Γ w (up W 22 0 v) G n := by
  have e : ∀ f j, f ≠ 22 → (up W 22 0 v) f j = W f j := fun f j hf => up_f hf
  intro k hk
  have q := h k hk
  unfold wLie at *
  rw [e 1 k (by decide), e 2 k (by decide), e 6 k (by decide), e 7 k (by decide), e 8 k (by decide), e 9 k (by decide), e 10 k (by decide), e 10 _ (by decide)]
  exact q
/-- the same but for what lies elsewhere -/
def wEx (V W : aS) : Prop := ∀ f j : Nat, f < 23 → V f j = W f j
theorem wEx_rf {W : aS} : wEx W W := fun _ _ _ => rfl
theorem wEx_t {U V W : aS} (h1 : wEx U V) (h2 : wEx V W) : wEx U W := fun f j h => (h1 f j h).trans (h2 f j h)
theorem wEx_s {V W : aS} (h : wEx V W) : wEx W V := fun f j hf => (h f j hf).symm
theorem wEx_Q {V W : aS} (h : wEx V W) : wQ V W := ⟨h 0 0 (by decide), fun f k _ h2 _ => h f k (by omega), fun f j _ h2 => h f j (by omega), fun f _ h2 => h f 0 (by omega), fun c k _ _ _ => h 17 _ (by decide)⟩
theorem wEx_I {A V W : aS} (h : wEx V W) (hW : WI A W) : WI A V := WI_Q (wEx_Q h) hW (by rw [h 21 0 (by decide)]; exact hW.2.2.2.2.2.2.2.2.1) (by rw [h 22 0 (by decide)]; exact hW.2.2.2.2.2.2.2.2.2)
theorem wEx_7 {V W : aS} (h : wEx V W) (hW : W7 W) : W7 V := W7_of (fun j => h 17 j (by decide)) hW
theorem rS_ex {Γ : zΓ} {w : Nat} {V W : aS} {G : zH} (h : wEx V W) (hS : rS Γ w W G) : rS Γ w V G := rS_W (fun f j hf => h f j (by omega)) hS
theorem rW_ex {Γ : zΓ} {w : Nat} {b : Int} {V W : aS} {G : zH} (h : wEx V W) (hS : rW Γ w b W G) : rW Γ w b V G := rW_Q (wEx_Q (wEx_s h)) hS

set_option maxHeartbeats 4000000 in
set_option maxRecDepth 100000 in
theorem c_X8_fitsK {l : Launch} {Γ : zΓ} {G : zH} {w t : Nat} {A W : aS}  (hX : zXs Γ) (hZ : QQ Γ (Γ.2.1 w 4) t A W G) (hI : G.2.2 903 w = t) (hW : WI A W) (hT : TA A)  : zMet l Γ yX8_fits cX8_fits 4 (some .int) 5 [zr 9 w] G (zpi (fun x G' => zsm [] G G' ∧ (x = wFB A W))) := by
  refine zMet_of RX8 hX (by decide) rfl (Nat.le_of_ble_eq_true rfl) ?_
  intro p e s m args below meth c C hr hlk
  show Z p l e (zrm 5) s m args below meth c Γ 4 0 0 (MQ below (zQc Γ (zpi (fun x G' => zsm [] G G' ∧ (x = wFB A W)))) args s 0 0 (zA Γ)) 0 [some (zr 9 w), none, none, none] [] G
  have hT0 := hT.1
  refine zs_aload_n (pc := 0) C dX8_fits_0 rfl ?_
  refine zs_getd (r := 903) (pc := 1) C dX8_fits_1 w_X8_25 f_9_3 (by decide) rfl (fun v1 e1 t1 => ?_)
  rw [hI] at e1
  subst v1
  refine zs_getf (pc := 4) C dX8_fits_4 w_X8_262 f_6_2 (by decide) ?_
  refine zs_iconst (pc := 7) C dX8_fits_7 (by decide) ?_
  refine zs_iald (r := 2037) (pc := 8) C dX8_fits_8 a_37 (by decide) (by omega) rfl rfl (fun v8 e8 l8 u8 => ?_)
  try simp only [QQ_2037 hZ, Int.reduceToNat] at e8
  try subst v8
  refine zs_istore_n (pc := 9) C dX8_fits_9 (by decide) ?_
  dsimp only [zset, zclr, znone]
  refine zs_iconst (pc := 10) C dX8_fits_10 (by decide) ?_
  refine zs_istore_n (pc := 11) C dX8_fits_11 (by decide) ?_
  dsimp only [zset, zclr, znone]
  refine zs_iconst (pc := 12) C dX8_fits_12 (by decide) ?_
  refine zs_istore_n (pc := 13) C dX8_fits_13 (by decide) ?_
  dsimp only [zset, zclr, znone]
  have L14 : ∀ (nn : Nat) (x2 x3 : Int) (G1 : zH), (0 ≤ x3 ∧ x3 ≤ A 4 3) → (x2 = wBi (fun j => wFI A W (4 + (j : Int))) x3.toNat) → (zsm [] G G1) → (4 - x3).toNat < nn → Z p l e (zrm 5) s m args below meth c Γ 4 0 0 (MQ below (zQc Γ (zpi (fun x G' => zsm [] G G' ∧ (x = wFB A W)))) args s 0 0 (zA Γ)) 14 [some (zr 9 w), some (zi (A 4 3)), some (zi x2), some (zi x3)] [] G1 := by
    intro nn
    induction nn with
    | zero => intro x2 x3 G1 h14_0 h14_1 h14_2 hm; exact absurd hm (Nat.not_lt_zero _)
    | succ nn ih14 =>
      intro x2 x3 G1 h14_0 h14_1 h14_2 hm14
      have hZ1 := QQ_n h14_2 hZ
      refine zs_iload_n (pc := 14) C dX8_fits_14 rfl ?_
      refine zs_iload_n (pc := 15) C dX8_fits_15 rfl ?_
      refine zs_icmp_ge (tgt := 48) (pc := 16) C dX8_fits_16 (by decide) (fun h16 => ?_) (fun h16 => ?_)
      · skip
        have hx3 : x3 = A 4 3 := by omega
        rw [hx3] at h14_1
        have hb := bor_i (k := A 4 3) (x := x2) (by omega) (by have q := wBi_in (P := (fun j => wFI A W (4 + (j : Int)))) (A 4 3).toNat (by omega); omega)
        refine zs_aload_n (pc := 48) C dX8_fits_48 rfl ?_
        refine zs_getf (pc := 49) C dX8_fits_49 w_X8_34 f_9_4 (by decide) ?_
        refine zs_iconst (pc := 52) C dX8_fits_52 (by decide) ?_
        refine zVi1 (pc := 53) C dX8_fits_53 v_X8_322 (c_X7_isFittingK hX hZ1 hW hT (by decide)) (by decide) (by decide) ⟨Nat.zero_le _, Nat.zero_le _⟩ (Nat.le_of_ble_eq_true rfl) (fun x53 G53 l53 u53 hp53 => ?_)
        obtain ⟨hz53, hq53⟩ := hp53
        first | have hZ53 := QQ_n hz53 hZ | have hZ53 := QQ_n hz53 hZ1
        refine zs_if_eq (tgt := 67) (pc := 56) C dX8_fits_56 (by decide) (fun h56 => ?_) (fun h56 => ?_)
        · skip
          refine zs_iload_n (pc := 67) C dX8_fits_67 rfl ?_
          exact zs_iret (pc := 68) C hr hlk dX8_fits_68 ⟨by repeat (first | exact zsm_rf | assumption | refine zsm_C (by decide) ?_ | refine zsm_I (by decide) ?_ | refine zsm_J ?_ | refine zsm_c (by assumption) (by decide) ?_), (by unfold wFB; first | (rw [if_pos (wFI_1.mpr (hq53.2.mp (by omega))), ez63, ez62]; omega) | (rw [if_neg (fun q => by have := hq53.2.mpr (wFI_1.mp q); omega)]; omega))⟩
        · skip
          refine zs_iload_n (pc := 59) C dX8_fits_59 rfl ?_
          refine zs_iconst (pc := 60) C dX8_fits_60 (by decide) ?_
          refine zs_iload_n (pc := 61) C dX8_fits_61 rfl ?_
          refine zs_ishlX (pc := 62) C dX8_fits_62 (fun z62 ez62 hz621 hz622 => ?_)
          refine zs_iorX (pc := 63) C dX8_fits_63 (fun z63 ez63 hz631 hz632 => ?_)
          refine zs_goto (tgt := 68) (pc := 64) C dX8_fits_64 (by decide) ?_
          exact zs_iret (pc := 68) C hr hlk dX8_fits_68 ⟨by repeat (first | exact zsm_rf | assumption | refine zsm_C (by decide) ?_ | refine zsm_I (by decide) ?_ | refine zsm_J ?_ | refine zsm_c (by assumption) (by decide) ?_), (by unfold wFB; first | (rw [if_pos (wFI_1.mpr (hq53.2.mp (by omega))), ez63, ez62]; omega) | (rw [if_neg (fun q => by have := hq53.2.mpr (wFI_1.mp q); omega)]; omega))⟩
      · skip
        have hs := wBi_f (A := A) (W := W) (k := x3) (by omega)
        have hb := bor_i (k := x3) (x := x2) (by omega) (by have q := wBi_in (P := (fun j => wFI A W (4 + (j : Int)))) x3.toNat (by omega); omega)
        refine zs_iload_n (pc := 19) C dX8_fits_19 rfl ?_
        refine zs_aload_n (pc := 20) C dX8_fits_20 rfl ?_
        refine zs_getf (pc := 21) C dX8_fits_21 w_X8_34 f_9_4 (by decide) ?_
        refine zs_iconst (pc := 24) C dX8_fits_24 (by decide) ?_
        refine zs_iload_n (pc := 25) C dX8_fits_25 rfl ?_
        first | refine zs_iadd (pc := 26) C dX8_fits_26 (by omega) ?_ | refine zs_iaddF (pc := 26) C dX8_fits_26 (fun z26 hz261 hz262 => ?_)
        refine zVi1 (pc := 27) C dX8_fits_27 v_X8_322 (c_X7_isFittingK hX hZ1 hW hT (by omega)) (by decide) (by decide) ⟨Nat.zero_le _, Nat.zero_le _⟩ (Nat.le_of_ble_eq_true rfl) (fun x27 G27 l27 u27 hp27 => ?_)
        obtain ⟨hz27, hq27⟩ := hp27
        first | have hZ27 := QQ_n hz27 hZ | have hZ27 := QQ_n hz27 hZ1
        refine zs_if_eq (tgt := 39) (pc := 30) C dX8_fits_30 (by decide) (fun h30 => ?_) (fun h30 => ?_)
        · skip
          rw [if_neg (fun q => by have := hq27.2.mpr (wFI_1.mp q); omega)] at hs
          refine zs_iconst (pc := 39) C dX8_fits_39 (by decide) ?_
          refine zs_iorX (pc := 40) C dX8_fits_40 (fun z40 ez40 hz401 hz402 => ?_)
          have hz40 : z40 = wBi (fun j => wFI A W (4 + (j : Int))) (x3 + 1).toNat := by rw [ez40]; first | (rw [ez35]; omega) | omega
          refine zs_istore_n (pc := 41) C dX8_fits_41 (by decide) ?_
          dsimp only [zset, zclr, znone]
          first | refine zs_iinc (pc := 42) C dX8_fits_42 rfl (by decide) (by omega) ?_ | refine zs_iincF (pc := 42) C dX8_fits_42 rfl (by decide) (fun z42 hz421 hz422 => ?_)
          dsimp only [zset, zclr, znone]
          refine zs_goto (tgt := 14) (pc := 45) C dX8_fits_45 (by decide) ?_
          exact zs_wk (ih14 _ _ _ (by omega) hz40 (by repeat (first | exact zsm_rf | assumption | refine zsm_C (by decide) ?_ | refine zsm_I (by decide) ?_ | refine zsm_J ?_ | refine zsm_c (by assumption) (by decide) ?_)) (by first | omega | (simp only [zuI_1, zuI_2, zuJ_1, zuJ_2, zuJ_3, zuP_1, zuP_2, zuP_3, zuC_1, zuC_2, reduceIte, Nat.reduceEqDiff, false_and, and_false, true_and, and_true, and_self, or_true, true_or, or_false, false_or]; omega))) (zwk_s rfl (zwk_s rfl (zwk_s rfl (zwk_s rfl zwk_0))))
        · skip
          rw [if_pos (wFI_1.mpr (hq27.2.mp (by omega)))] at hs
          refine zs_iconst (pc := 33) C dX8_fits_33 (by decide) ?_
          refine zs_iload_n (pc := 34) C dX8_fits_34 rfl ?_
          refine zs_ishlX (pc := 35) C dX8_fits_35 (fun z35 ez35 hz351 hz352 => ?_)
          refine zs_goto (tgt := 40) (pc := 36) C dX8_fits_36 (by decide) ?_
          refine zs_iorX (pc := 40) C dX8_fits_40 (fun z40 ez40 hz401 hz402 => ?_)
          have hz40 : z40 = wBi (fun j => wFI A W (4 + (j : Int))) (x3 + 1).toNat := by rw [ez40]; first | (rw [ez35]; omega) | omega
          refine zs_istore_n (pc := 41) C dX8_fits_41 (by decide) ?_
          dsimp only [zset, zclr, znone]
          first | refine zs_iinc (pc := 42) C dX8_fits_42 rfl (by decide) (by omega) ?_ | refine zs_iincF (pc := 42) C dX8_fits_42 rfl (by decide) (fun z42 hz421 hz422 => ?_)
          dsimp only [zset, zclr, znone]
          refine zs_goto (tgt := 14) (pc := 45) C dX8_fits_45 (by decide) ?_
          exact zs_wk (ih14 _ _ _ (by omega) hz40 (by repeat (first | exact zsm_rf | assumption | refine zsm_C (by decide) ?_ | refine zsm_I (by decide) ?_ | refine zsm_J ?_ | refine zsm_c (by assumption) (by decide) ?_)) (by first | omega | (simp only [zuI_1, zuI_2, zuJ_1, zuJ_2, zuJ_3, zuP_1, zuP_2, zuP_3, zuC_1, zuC_2, reduceIte, Nat.reduceEqDiff, false_and, and_false, true_and, and_true, and_self, or_true, true_or, or_false, false_or]; omega))) (zwk_s rfl (zwk_s rfl (zwk_s rfl (zwk_s rfl zwk_0))))
  exact zs_wk (L14 _ _ _ _ (by omega) rfl zsm_rf (Nat.lt_succ_self _)) (zwk_s rfl (zwk_s rfl (zwk_s rfl (zwk_s rfl zwk_0))))

set_option maxHeartbeats 4000000 in
set_option maxRecDepth 100000 in
theorem c_X8_undoK {l : Launch} {Γ : zΓ} {G : zH} {w t : Nat} {A W : aS}  (hX : zXs Γ) (hZ : QQ Γ (Γ.2.1 w 4) t A W G) (hI : G.2.2 903 w = t) (hW : WI A W) (hT : TA A) (h7 : W7 W) (h20 : G.1 910 w 0 ≤ 20) (hok : 0 < G.1 910 w 0 → wOK W ((G.1 2056 (Γ.2.1 w 9)) (G.1 910 w 0 - 1).toNat))  : zMet l Γ yX8_undo cX8_undo 2 (some .int) 2 [zr 9 w] G (zpi (fun x G' => zsm [910, 2020, 2030, 2053, 2048, 2049, 2052, 510, 2026, 2027, 2028, 2029, 2031, 2032, 2033, 2034, 2035, 810, 811, 2050, 2051] G G' ∧ ((G.1 910 w 0 ≤ 0 → x = -1 ∧ QQ Γ (Γ.2.1 w 4) t A (W) G' ∧ G'.1 910 w 0 = G.1 910 w 0 ∧ (G'.1 2056 (Γ.2.1 w 9)) = (G.1 2056 (Γ.2.1 w 9))) ∧ (0 < G.1 910 w 0 → x = G.1 910 w 0 - 1 ∧ QQ Γ (Γ.2.1 w 4) t A (wUndo W ((G.1 2056 (Γ.2.1 w 9)) (G.1 910 w 0 - 1).toNat)) G' ∧ G'.1 910 w 0 = G.1 910 w 0 - 1 ∧ (G'.1 2056 (Γ.2.1 w 9)) = (G.1 2056 (Γ.2.1 w 9)))))) := by
  refine zMet_of RX8 hX (by decide) rfl (Nat.le_of_ble_eq_true rfl) ?_
  intro p e s m args below meth c C hr hlk
  show Z p l e (zrm 2) s m args below meth c Γ 2 0 0 (MQ below (zQc Γ (zpi (fun x G' => zsm [910, 2020, 2030, 2053, 2048, 2049, 2052, 510, 2026, 2027, 2028, 2029, 2031, 2032, 2033, 2034, 2035, 810, 811, 2050, 2051] G G' ∧ ((G.1 910 w 0 ≤ 0 → x = -1 ∧ QQ Γ (Γ.2.1 w 4) t A (W) G' ∧ G'.1 910 w 0 = G.1 910 w 0 ∧ (G'.1 2056 (Γ.2.1 w 9)) = (G.1 2056 (Γ.2.1 w 9))) ∧ (0 < G.1 910 w 0 → x = G.1 910 w 0 - 1 ∧ QQ Γ (Γ.2.1 w 4) t A (wUndo W ((G.1 2056 (Γ.2.1 w 9)) (G.1 910 w 0 - 1).toNat)) G' ∧ G'.1 910 w 0 = G.1 910 w 0 - 1 ∧ (G'.1 2056 (Γ.2.1 w 9)) = (G.1 2056 (Γ.2.1 w 9))))))) args s 0 0 (zA Γ)) 0 [some (zr 9 w), none] [] G
  refine zs_aload_n (pc := 0) C dX8_undo_0 rfl ?_
  refine zs_geti (r := 910) (pc := 1) C dX8_undo_1 w_X8_94 f_9_10 rfl (r_910 0) (fun v1 e1 l1 u1 => ?_)
  refine zs_if_gt (tgt := 9) (pc := 4) C dX8_undo_4 (by decide) (fun h4 => ?_) (fun h4 => ?_)
  · skip
    refine zs_aload_n (pc := 9) C dX8_undo_9 rfl ?_
    refine zs_dupa (pc := 10) C dX8_undo_10 ?_
    refine zs_geti (r := 910) (pc := 11) C dX8_undo_11 w_X8_94 f_9_10 rfl (r_910 0) (fun v11 e11 l11 u11 => ?_)
    refine zs_iconst (pc := 14) C dX8_undo_14 (by decide) ?_
    first | refine zs_isub (pc := 15) C dX8_undo_15 (by omega) ?_ | refine zs_isubF (pc := 15) C dX8_undo_15 (fun z15 hz151 hz152 => ?_)
    refine zs_puti (r := 910) (pc := 16) C dX8_undo_16 w_X8_94 f_9_10 rfl (r_910 0) (by omega) ?_
    refine zs_aload_n (pc := 19) C dX8_undo_19 rfl ?_
    refine zs_getf (pc := 20) C dX8_undo_20 w_X8_49 f_9_7 (by decide) ?_
    refine zVv0 (pc := 23) C dX8_undo_23 v_X8_97 (c_X2_forget hX ) (by decide) (by decide) ⟨Nat.zero_le _, Nat.zero_le _⟩ (Nat.le_of_ble_eq_true rfl) (fun G23 hp23 => ?_)
    obtain ⟨hz23, hq23⟩ := hp23
    try simp only [zuI_1, zuI_2, zuJ_1, zuJ_2, zuJ_3, zuP_1, zuP_2, zuP_3, zuC_1, zuC_2, reduceIte, Nat.reduceEqDiff, false_and, and_false, true_and, and_true, and_self, or_true, true_or, or_false, false_or] at hq23
    have hZ23 := QQ_sm hz23 (by decide) (by decide +kernel) (QQ_910 hZ)
    have t910 := zsm_at hz23 910 w 0 (by decide)
    try simp only [zuI_1, zuI_2, zuJ_1, zuJ_2, zuJ_3, zuP_1, zuP_2, zuP_3, zuC_1, zuC_2, reduceIte, Nat.reduceEqDiff, false_and, and_false, true_and, and_true, and_self, or_true, true_or, or_false, false_or] at t910
    refine zs_aload_n (pc := 26) C dX8_undo_26 rfl ?_
    refine zs_getf (pc := 27) C dX8_undo_27 w_X8_60 f_9_9 (by decide) ?_
    refine zs_aload_n (pc := 30) C dX8_undo_30 rfl ?_
    refine zs_geti (r := 910) (pc := 31) C dX8_undo_31 w_X8_94 f_9_10 rfl (r_910 0) (fun v31 e31 l31 u31 => ?_)
    refine zs_iald (r := 2056) (pc := 34) C dX8_undo_34 a_56 (by decide) (by omega) rfl (r_2056 _) (fun v34 e34 l34 u34 => ?_)
    have hoq := hok (by omega)
    have y34 : v34 = ((G.1 2056 (Γ.2.1 w 9)) (G.1 910 w 0 - 1).toNat) := by rw [e34, hz23.1 2056 (by decide), show v31 = G.1 910 w 0 - 1 by omega]; simp only [zuI_1, zuI_2, zuJ_1, zuJ_2, zuJ_3, zuP_1, zuP_2, zuP_3, zuC_1, zuC_2, reduceIte, Nat.reduceEqDiff, false_and, and_false, true_and, and_true, and_self, or_true, true_or, or_false, false_or]
    rw [← y34] at hoq
    have hor : v34 ≤ 25 ∧ (v34 = 0 ∨ 1 ≤ v34) := by rcases hoq with q | q | q <;> omega
    refine zs_istore_n (pc := 35) C dX8_undo_35 (by decide) ?_
    dsimp only [zset, zclr, znone]
    refine zs_iload_n (pc := 36) C dX8_undo_36 rfl ?_
    refine zs_bipush (pc := 37) C dX8_undo_37 (by decide) (by decide) ?_
    refine zs_icmp_lt (tgt := 56) (pc := 39) C dX8_undo_39 (by decide) (fun h39 => ?_) (fun h39 => ?_)
    · skip
      refine zs_iload_n (pc := 56) C dX8_undo_56 rfl ?_
      refine zs_iconst (pc := 57) C dX8_undo_57 (by decide) ?_
      refine zs_icmp_lt (tgt := 81) (pc := 58) C dX8_undo_58 (by decide) (fun h58 => ?_) (fun h58 => ?_)
      · skip
        refine zs_aload_n (pc := 81) C dX8_undo_81 rfl ?_
        refine zs_getf (pc := 82) C dX8_undo_82 w_X8_34 f_9_4 (by decide) ?_
        refine zVv0 (pc := 85) C dX8_undo_85 v_X8_331 (c_X7_ungrindK hX hZ23 hW hT) (by decide) (by decide) ⟨Nat.zero_le _, Nat.zero_le _⟩ (Nat.le_of_ble_eq_true rfl) (fun G85 hp85 => ?_)
        obtain ⟨hz85, hq85⟩ := hp85
        have hZ85 := hq85
        refine zs_aload_n (pc := 88) C dX8_undo_88 rfl ?_
        refine zs_geti (r := 910) (pc := 89) C dX8_undo_89 w_X8_94 f_9_10 rfl (r_910 0) (fun v89 e89 l89 u89 => ?_)
        exact zs_iret (pc := 92) C hr hlk dX8_undo_92 (by
            have t9 : (0 : Int) = 0 := rfl
            first
            | (have t5 := zsm_at hz50 910 w 0 (by decide)
               exact ⟨by repeat (first | exact zsm_rf | assumption | refine zsm_C (by decide) ?_ | refine zsm_I (by decide) ?_ | refine zsm_J ?_ | refine zsm_c (by assumption) (by decide) ?_), ⟨fun z => absurd z (by omega), fun _ => ⟨by omega, (by unfold wUndo; rw [← y34, if_pos (by omega)]; exact hq50), by omega, by rw [hz50.1 2056 (by decide), hz23.1 2056 (by decide)]; rfl⟩⟩⟩)
            | (have t5 := zsm_at hz75 910 w 0 (by decide)
               exact ⟨by repeat (first | exact zsm_rf | assumption | refine zsm_C (by decide) ?_ | refine zsm_I (by decide) ?_ | refine zsm_J ?_ | refine zsm_c (by assumption) (by decide) ?_), ⟨fun z => absurd z (by omega), fun _ => ⟨by omega, (by unfold wUndo; rw [← y34, if_neg (by omega), if_pos (by omega)]; exact hq75), by omega, by rw [hz75.1 2056 (by decide), hz23.1 2056 (by decide)]; rfl⟩⟩⟩)
            | (have t5 := zsm_at hz85 910 w 0 (by decide)
               exact ⟨by repeat (first | exact zsm_rf | assumption | refine zsm_C (by decide) ?_ | refine zsm_I (by decide) ?_ | refine zsm_J ?_ | refine zsm_c (by assumption) (by decide) ?_), ⟨fun z => absurd z (by omega), fun _ => ⟨by omega, (by unfold wUndo; rw [← y34, if_neg (by omega), if_neg (by omega)]; exact hq85), by omega, by rw [hz85.1 2056 (by decide), hz23.1 2056 (by decide)]; rfl⟩⟩⟩))
      · skip
        refine zs_aload_n (pc := 61) C dX8_undo_61 rfl ?_
        refine zs_getf (pc := 62) C dX8_undo_62 w_X8_34 f_9_4 (by decide) ?_
        refine zs_iload_n (pc := 65) C dX8_undo_65 rfl ?_
        refine zs_iconst (pc := 66) C dX8_undo_66 (by decide) ?_
        first | refine zs_isub (pc := 67) C dX8_undo_67 (by omega) ?_ | refine zs_isubF (pc := 67) C dX8_undo_67 (fun z67 hz671 hz672 => ?_)
        refine zs_iconst (pc := 68) C dX8_undo_68 (by decide) ?_
        first | refine zs_idiv (pc := 69) C dX8_undo_69 (by omega) (by omega) (fun hz691 hz692 => ?_) | refine zs_idivF (pc := 69) C dX8_undo_69 (by omega) (fun z69 hz691 hz692 => ?_)
        refine zs_iload_n (pc := 70) C dX8_undo_70 rfl ?_
        refine zs_iconst (pc := 71) C dX8_undo_71 (by decide) ?_
        first | refine zs_isub (pc := 72) C dX8_undo_72 (by omega) ?_ | refine zs_isubF (pc := 72) C dX8_undo_72 (fun z72 hz721 hz722 => ?_)
        refine zs_iconst (pc := 73) C dX8_undo_73 (by decide) ?_
        first | refine zs_irem (pc := 74) C dX8_undo_74 (by omega) (by omega) (fun hz741 hz742 => ?_) | refine zs_iremF (pc := 74) C dX8_undo_74 (by omega) (fun z74 hz741 hz742 => ?_)
        refine zVv2 (pc := 75) C dX8_undo_75 v_X8_328 (c_X7_unfallK hX hZ23 hW (by omega) (by omega)) (by decide) (by decide) ⟨Nat.zero_le _, Nat.zero_le _⟩ (Nat.le_of_ble_eq_true rfl) (fun G75 hp75 => ?_)
        obtain ⟨hz75, hq75⟩ := hp75
        have hZ75 := hq75
        refine zs_goto (tgt := 88) (pc := 78) C dX8_undo_78 (by decide) ?_
        refine zs_aload_n (pc := 88) C dX8_undo_88 rfl ?_
        refine zs_geti (r := 910) (pc := 89) C dX8_undo_89 w_X8_94 f_9_10 rfl (r_910 0) (fun v89 e89 l89 u89 => ?_)
        exact zs_iret (pc := 92) C hr hlk dX8_undo_92 (by
            have t9 : (0 : Int) = 0 := rfl
            first
            | (have t5 := zsm_at hz50 910 w 0 (by decide)
               exact ⟨by repeat (first | exact zsm_rf | assumption | refine zsm_C (by decide) ?_ | refine zsm_I (by decide) ?_ | refine zsm_J ?_ | refine zsm_c (by assumption) (by decide) ?_), ⟨fun z => absurd z (by omega), fun _ => ⟨by omega, (by unfold wUndo; rw [← y34, if_pos (by omega)]; exact hq50), by omega, by rw [hz50.1 2056 (by decide), hz23.1 2056 (by decide)]; rfl⟩⟩⟩)
            | (have t5 := zsm_at hz75 910 w 0 (by decide)
               exact ⟨by repeat (first | exact zsm_rf | assumption | refine zsm_C (by decide) ?_ | refine zsm_I (by decide) ?_ | refine zsm_J ?_ | refine zsm_c (by assumption) (by decide) ?_), ⟨fun z => absurd z (by omega), fun _ => ⟨by omega, (by unfold wUndo; rw [← y34, if_neg (by omega), if_pos (by omega)]; exact hq75), by omega, by rw [hz75.1 2056 (by decide), hz23.1 2056 (by decide)]; rfl⟩⟩⟩)
            | (have t5 := zsm_at hz85 910 w 0 (by decide)
               exact ⟨by repeat (first | exact zsm_rf | assumption | refine zsm_C (by decide) ?_ | refine zsm_I (by decide) ?_ | refine zsm_J ?_ | refine zsm_c (by assumption) (by decide) ?_), ⟨fun z => absurd z (by omega), fun _ => ⟨by omega, (by unfold wUndo; rw [← y34, if_neg (by omega), if_neg (by omega)]; exact hq85), by omega, by rw [hz85.1 2056 (by decide), hz23.1 2056 (by decide)]; rfl⟩⟩⟩))
    · skip
      refine zs_aload_n (pc := 42) C dX8_undo_42 rfl ?_
      refine zs_getf (pc := 43) C dX8_undo_43 w_X8_34 f_9_4 (by decide) ?_
      refine zs_iload_n (pc := 46) C dX8_undo_46 rfl ?_
      refine zs_bipush (pc := 47) C dX8_undo_47 (by decide) (by decide) ?_
      first | refine zs_isub (pc := 49) C dX8_undo_49 (by omega) ?_ | refine zs_isubF (pc := 49) C dX8_undo_49 (fun z49 hz491 hz492 => ?_)
      refine zVv1 (pc := 50) C dX8_undo_50 v_X8_325 (c_X7_unbakeK hX hZ23 hW (by omega) h7) (by decide) (by decide) ⟨Nat.zero_le _, Nat.zero_le _⟩ (Nat.le_of_ble_eq_true rfl) (fun G50 hp50 => ?_)
      obtain ⟨hz50, hq50⟩ := hp50
      have hZ50 := hq50
      refine zs_goto (tgt := 88) (pc := 53) C dX8_undo_53 (by decide) ?_
      refine zs_aload_n (pc := 88) C dX8_undo_88 rfl ?_
      refine zs_geti (r := 910) (pc := 89) C dX8_undo_89 w_X8_94 f_9_10 rfl (r_910 0) (fun v89 e89 l89 u89 => ?_)
      exact zs_iret (pc := 92) C hr hlk dX8_undo_92 (by
          have t9 : (0 : Int) = 0 := rfl
          first
          | (have t5 := zsm_at hz50 910 w 0 (by decide)
             exact ⟨by repeat (first | exact zsm_rf | assumption | refine zsm_C (by decide) ?_ | refine zsm_I (by decide) ?_ | refine zsm_J ?_ | refine zsm_c (by assumption) (by decide) ?_), ⟨fun z => absurd z (by omega), fun _ => ⟨by omega, (by unfold wUndo; rw [← y34, if_pos (by omega)]; exact hq50), by omega, by rw [hz50.1 2056 (by decide), hz23.1 2056 (by decide)]; rfl⟩⟩⟩)
          | (have t5 := zsm_at hz75 910 w 0 (by decide)
             exact ⟨by repeat (first | exact zsm_rf | assumption | refine zsm_C (by decide) ?_ | refine zsm_I (by decide) ?_ | refine zsm_J ?_ | refine zsm_c (by assumption) (by decide) ?_), ⟨fun z => absurd z (by omega), fun _ => ⟨by omega, (by unfold wUndo; rw [← y34, if_neg (by omega), if_pos (by omega)]; exact hq75), by omega, by rw [hz75.1 2056 (by decide), hz23.1 2056 (by decide)]; rfl⟩⟩⟩)
          | (have t5 := zsm_at hz85 910 w 0 (by decide)
             exact ⟨by repeat (first | exact zsm_rf | assumption | refine zsm_C (by decide) ?_ | refine zsm_I (by decide) ?_ | refine zsm_J ?_ | refine zsm_c (by assumption) (by decide) ?_), ⟨fun z => absurd z (by omega), fun _ => ⟨by omega, (by unfold wUndo; rw [← y34, if_neg (by omega), if_neg (by omega)]; exact hq85), by omega, by rw [hz85.1 2056 (by decide), hz23.1 2056 (by decide)]; rfl⟩⟩⟩))
  · skip
    refine zs_iconst (pc := 7) C dX8_undo_7 (by decide) ?_
    exact zs_iret (pc := 8) C hr hlk dX8_undo_8 ⟨by repeat (first | exact zsm_rf | assumption | refine zsm_C (by decide) ?_ | refine zsm_I (by decide) ?_ | refine zsm_J ?_ | refine zsm_c (by assumption) (by decide) ?_), ⟨fun _ => ⟨rfl, hZ, rfl, rfl⟩, fun z => absurd z (by omega)⟩⟩

set_option maxHeartbeats 4000000 in
set_option maxRecDepth 100000 in
theorem c_X8_keepK {l : Launch} {Γ : zΓ} {G : zH} {w t : Nat} {A W : aS}  (hX : zXs Γ) (hZ : QQ Γ (Γ.2.1 w 4) t A W G) (hI : G.2.2 903 w = t) (ha : AW Γ (Γ.2.1 w 5) (Γ.2.1 w 4))  : zMet l Γ yX8_keep cX8_keep 1 (some .int) 3 [zr 9 w] G (zpi (fun x G' => zsn [510, 2026, 2027, 2028, 2029, 2030, 2031, 2032, 2033, 2034, 2035, 2048, 2049, 2050, 2051, 2052, 2053, 809, 810, 811, 812, 813, 911] G G' ∧ (x = W 18 0 ∧ (∃ V : aS, QQ Γ (Γ.2.1 w 4) t A (V) G' ∧ wEx V W) ∧ (∃ U : aS, QQ Γ (Γ.2.1 w 5) t A U G' ∧ wCp U W) ∧ G'.1 911 w 0 = 1 ∧ (∀ r a9 : Nat, (r = 800 ∧ a9 = (Γ.2.1 w 5)) ∨ G'.2.2 r a9 = G.2.2 r a9)))) := by
  refine zMet_of RX8 hX (by decide) rfl (Nat.le_of_ble_eq_true rfl) ?_
  intro p e s m args below meth c C hr hlk
  show Z p l e (zrm 3) s m args below meth c Γ 1 0 0 (MQ below (zQc Γ (zpi (fun x G' => zsn [510, 2026, 2027, 2028, 2029, 2030, 2031, 2032, 2033, 2034, 2035, 2048, 2049, 2050, 2051, 2052, 2053, 809, 810, 811, 812, 813, 911] G G' ∧ (x = W 18 0 ∧ (∃ V : aS, QQ Γ (Γ.2.1 w 4) t A (V) G' ∧ wEx V W) ∧ (∃ U : aS, QQ Γ (Γ.2.1 w 5) t A U G' ∧ wCp U W) ∧ G'.1 911 w 0 = 1 ∧ (∀ r a9 : Nat, (r = 800 ∧ a9 = (Γ.2.1 w 5)) ∨ G'.2.2 r a9 = G.2.2 r a9))))) args s 0 0 (zA Γ)) 0 [some (zr 9 w)] [] G
  refine zs_aload_n (pc := 0) C dX8_keep_0 rfl ?_
  refine zs_getf (pc := 1) C dX8_keep_1 w_X8_38 f_9_5 (by decide) ?_
  refine zs_aload_n (pc := 4) C dX8_keep_4 rfl ?_
  refine zs_getf (pc := 5) C dX8_keep_5 w_X8_34 f_9_4 (by decide) ?_
  refine zVv1 (pc := 8) C dX8_keep_8 v_X8_288 (c_X7_copyFromK (w := (Γ.2.1 w 5)) (v := (Γ.2.1 w 4)) (t := t) hX (QQ_t hZ)) (by decide) (by decide) ⟨Nat.zero_le _, Nat.zero_le _⟩ (Nat.le_of_ble_eq_true rfl) (fun G8 hp8 => ?_)
  obtain ⟨hz8, hq8⟩ := hp8
  obtain ⟨r8, o8, c8⟩ := hq8
  obtain ⟨W0, hW0⟩ := QW_is (Γ := Γ) (w := (Γ.2.1 w 5)) (G := G)
  obtain ⟨U, hU, hUc, hUg, hU7⟩ := QQ_cp hz8 (by decide +kernel) hW0 hZ (by rw [r8, zuP_3, if_pos ⟨rfl, rfl⟩]) o8 c8
  obtain ⟨hO1, hO2⟩ := QQ_ot ha hz8 (by decide +kernel) o8 (by rw [r8, zuP_3, if_neg (fun q => ha.1 q.2.symm)]) hZ
  refine zs_aload_n (pc := 11) C dX8_keep_11 rfl ?_
  refine zs_iconst (pc := 12) C dX8_keep_12 (by decide) ?_
  refine zs_putz (r := 911) (pc := 13) C dX8_keep_13 w_X8_90 f_9_11 rfl (r_911 0) (by omega) (by omega) ?_
  refine zs_aload_n (pc := 16) C dX8_keep_16 rfl ?_
  refine zs_getf (pc := 17) C dX8_keep_17 w_X8_34 f_9_4 (by decide) ?_
  refine zs_geti (r := 809) (pc := 20) C dX8_keep_20 w_X8_221 f_8_9 rfl (r_809 0) (fun v20 e20 l20 u20 => ?_)
  try simp only [zuI_1, zuI_2, zuJ_1, zuJ_2, zuJ_3, zuP_1, zuP_2, zuP_3, zuC_1, zuC_2, reduceIte, Nat.reduceEqDiff, false_and, and_false, true_and, and_true, and_self, or_true, true_or, or_false, false_or] at e20
  try simp only [QQ_809 hZ] at e20
  try subst v20
  exact zs_iret (pc := 23) C hr hlk dX8_keep_23 (by
      have y20 : G8.1 809 (Γ.2.1 w 4) 0 = W 18 0 := by rw [QQ_809 hO1]; exact hO2 18 0 (by decide)
      exact ⟨by repeat (first | exact zsn_rf | assumption | refine zsn_C (by decide) ?_ | refine zsn_I (by decide) ?_ | refine zsn_J ?_ | refine zsn_P ?_ | refine zsn_m (by assumption) (by decide) ?_ | refine zsn_c (by assumption) (by decide) ?_), ⟨(by first | exact y20 | (simp only [zuI_1, zuI_2, zuJ_1, zuJ_2, zuJ_3, zuP_1, zuP_2, zuP_3, zuC_1, zuC_2, reduceIte, Nat.reduceEqDiff, false_and, and_false, true_and, and_true, and_self, or_true, true_or, or_false, false_or]; exact y20)), ⟨_, QQ_911 hO1, hO2⟩, ⟨U, QQ_911 hU, hUc⟩, by simp only [zuI_1, zuI_2, zuJ_1, zuJ_2, zuJ_3, zuP_1, zuP_2, zuP_3, zuC_1, zuC_2, reduceIte, Nat.reduceEqDiff, false_and, and_false, true_and, and_true, and_self, or_true, true_or, or_false, false_or], fun r a9 => (by by_cases z : r = 800 ∧ a9 = (Γ.2.1 w 5); exact Or.inl z; exact Or.inr (by show G8.2.2 r a9 = _; rw [r8, zuP_3, if_neg z]))⟩⟩)

set_option maxHeartbeats 4000000 in
set_option maxRecDepth 100000 in
theorem c_X8_backK {l : Launch} {Γ : zΓ} {G : zH} {w t : Nat} {A W : aS} {V : aS}  (hX : zXs Γ) (hZ : QQ Γ (Γ.2.1 w 4) t A W G) (hI : G.2.2 903 w = t) (ha : AW Γ (Γ.2.1 w 4) (Γ.2.1 w 5)) (hV : G.1 911 w 0 ≠ 0 → QQ Γ (Γ.2.1 w 5) t A V G)  : zMet l Γ yX8_back cX8_back 1 (some .int) 3 [zr 9 w] G (zpi (fun x G' => zsn [510, 2026, 2027, 2028, 2029, 2030, 2031, 2032, 2033, 2034, 2035, 2048, 2049, 2050, 2051, 2052, 2053, 809, 810, 811, 812, 813, 910, 2020] G G' ∧ ((G.1 911 w 0 = 0 → x = -1 ∧ QQ Γ (Γ.2.1 w 4) t A (W) G' ∧ G'.1 910 w 0 = G.1 910 w 0 ∧ (G'.1 2056 (Γ.2.1 w 9)) = (G.1 2056 (Γ.2.1 w 9)) ∧ G' = G) ∧ (G.1 911 w 0 ≠ 0 → x = V 18 0 ∧ (∃ U : aS, QQ Γ (Γ.2.1 w 4) t A (U) G' ∧ wCp U V ∧ ∀ j : Nat, U 17 j = W 17 j) ∧ (∃ V' : aS, QQ Γ (Γ.2.1 w 5) t A V' G' ∧ wEx V' V) ∧ G'.1 910 w 0 = 0 ∧ (∀ r a9 : Nat, (r = 800 ∧ a9 = (Γ.2.1 w 4)) ∨ G'.2.2 r a9 = G.2.2 r a9))))) := by
  refine zMet_of RX8 hX (by decide) rfl (Nat.le_of_ble_eq_true rfl) ?_
  intro p e s m args below meth c C hr hlk
  show Z p l e (zrm 3) s m args below meth c Γ 1 0 0 (MQ below (zQc Γ (zpi (fun x G' => zsn [510, 2026, 2027, 2028, 2029, 2030, 2031, 2032, 2033, 2034, 2035, 2048, 2049, 2050, 2051, 2052, 2053, 809, 810, 811, 812, 813, 910, 2020] G G' ∧ ((G.1 911 w 0 = 0 → x = -1 ∧ QQ Γ (Γ.2.1 w 4) t A (W) G' ∧ G'.1 910 w 0 = G.1 910 w 0 ∧ (G'.1 2056 (Γ.2.1 w 9)) = (G.1 2056 (Γ.2.1 w 9)) ∧ G' = G) ∧ (G.1 911 w 0 ≠ 0 → x = V 18 0 ∧ (∃ U : aS, QQ Γ (Γ.2.1 w 4) t A (U) G' ∧ wCp U V ∧ ∀ j : Nat, U 17 j = W 17 j) ∧ (∃ V' : aS, QQ Γ (Γ.2.1 w 5) t A V' G' ∧ wEx V' V) ∧ G'.1 910 w 0 = 0 ∧ (∀ r a9 : Nat, (r = 800 ∧ a9 = (Γ.2.1 w 4)) ∨ G'.2.2 r a9 = G.2.2 r a9)))))) args s 0 0 (zA Γ)) 0 [some (zr 9 w)] [] G
  refine zs_aload_n (pc := 0) C dX8_back_0 rfl ?_
  refine zs_getz (r := 911) (pc := 1) C dX8_back_1 w_X8_90 f_9_11 rfl (r_911 0) (fun v1 e1 l1 u1 => ?_)
  refine zs_if_ne (tgt := 9) (pc := 4) C dX8_back_4 (by decide) (fun h4 => ?_) (fun h4 => ?_)
  · skip
    have h911 : G.1 911 w 0 ≠ 0 := by omega
    have hV9 := hV h911
    refine zs_aload_n (pc := 9) C dX8_back_9 rfl ?_
    refine zs_getf (pc := 10) C dX8_back_10 w_X8_34 f_9_4 (by decide) ?_
    refine zs_aload_n (pc := 13) C dX8_back_13 rfl ?_
    refine zs_getf (pc := 14) C dX8_back_14 w_X8_38 f_9_5 (by decide) ?_
    refine zVv1 (pc := 17) C dX8_back_17 v_X8_288 (c_X7_copyFromK (w := (Γ.2.1 w 4)) (v := (Γ.2.1 w 5)) (t := t) hX (QQ_t hV9)) (by decide) (by decide) ⟨Nat.zero_le _, Nat.zero_le _⟩ (Nat.le_of_ble_eq_true rfl) (fun G17 hp17 => ?_)
    obtain ⟨hz17, hq17⟩ := hp17
    obtain ⟨r17, o17, c17⟩ := hq17
    obtain ⟨U, hU, hUc, hUg, hU7⟩ := QQ_cp hz17 (by decide +kernel) hZ.1 hV9 (by rw [r17, zuP_3, if_pos ⟨rfl, rfl⟩]) o17 c17
    obtain ⟨hO1, hO2⟩ := QQ_ot ha hz17 (by decide +kernel) o17 (by rw [r17, zuP_3, if_neg (fun q => ha.1 q.2.symm)]) hV9
    refine zs_aload_n (pc := 20) C dX8_back_20 rfl ?_
    refine zs_iconst (pc := 21) C dX8_back_21 (by decide) ?_
    refine zs_puti (r := 910) (pc := 22) C dX8_back_22 w_X8_94 f_9_10 rfl (r_910 0) (by omega) ?_
    refine zs_aload_n (pc := 25) C dX8_back_25 rfl ?_
    refine zs_getf (pc := 26) C dX8_back_26 w_X8_49 f_9_7 (by decide) ?_
    refine zVv0 (pc := 29) C dX8_back_29 v_X8_97 (c_X2_forget hX ) (by decide) (by decide) ⟨Nat.zero_le _, Nat.zero_le _⟩ (Nat.le_of_ble_eq_true rfl) (fun G29 hp29 => ?_)
    obtain ⟨hz29, hq29⟩ := hp29
    try simp only [zuI_1, zuI_2, zuJ_1, zuJ_2, zuJ_3, zuP_1, zuP_2, zuP_3, zuC_1, zuC_2, reduceIte, Nat.reduceEqDiff, false_and, and_false, true_and, and_true, and_self, or_true, true_or, or_false, false_or] at hq29
    have hU29 := QQ_sm hz29 (by decide) (by decide +kernel) (QQ_910 hU)
    have hO29 := QQ_sm hz29 (by decide) (by decide +kernel) (QQ_910 hO1)
    have t910 := zsm_at hz29 910 w 0 (by decide)
    try simp only [zuI_1, zuI_2, zuJ_1, zuJ_2, zuJ_3, zuP_1, zuP_2, zuP_3, zuC_1, zuC_2, reduceIte, Nat.reduceEqDiff, false_and, and_false, true_and, and_true, and_self, or_true, true_or, or_false, false_or] at t910
    refine zs_aload_n (pc := 32) C dX8_back_32 rfl ?_
    refine zs_getf (pc := 33) C dX8_back_33 w_X8_34 f_9_4 (by decide) ?_
    refine zs_geti (r := 809) (pc := 36) C dX8_back_36 w_X8_221 f_8_9 rfl (r_809 0) (fun v36 e36 l36 u36 => ?_)
    try simp only [QQ_809 hZ] at e36
    try subst v36
    exact zs_iret (pc := 39) C hr hlk dX8_back_39 (by
        have y36 : G29.1 809 (Γ.2.1 w 4) 0 = V 18 0 := by rw [QQ_809 hU29]; exact hUc.2.2.2.2 18 (by decide) (by decide)
        exact ⟨by repeat (first | exact zsn_rf | assumption | refine zsn_C (by decide) ?_ | refine zsn_I (by decide) ?_ | refine zsn_J ?_ | refine zsn_P ?_ | refine zsn_m (by assumption) (by decide) ?_ | refine zsn_c (by assumption) (by decide) ?_), ⟨fun z => absurd z h911, fun _ => ⟨(by first | exact y36 | (simp only [zuI_1, zuI_2, zuJ_1, zuJ_2, zuJ_3, zuP_1, zuP_2, zuP_3, zuC_1, zuC_2, reduceIte, Nat.reduceEqDiff, false_and, and_false, true_and, and_true, and_self, or_true, true_or, or_false, false_or]; exact y36)), ⟨U, hU29, hUc, hU7⟩, ⟨_, hO29, hO2⟩, t910, fun r a9 => (by by_cases z : r = 800 ∧ a9 = (Γ.2.1 w 4); exact Or.inl z; exact Or.inr (by rw [hz29.2]; show G17.2.2 r a9 = _; rw [r17, zuP_3, if_neg z]))⟩⟩⟩)
  · skip
    refine zs_iconst (pc := 7) C dX8_back_7 (by decide) ?_
    exact zs_iret (pc := 8) C hr hlk dX8_back_8 ⟨by repeat (first | exact zsn_rf | assumption | refine zsn_C (by decide) ?_ | refine zsn_I (by decide) ?_ | refine zsn_J ?_ | refine zsn_P ?_ | refine zsn_m (by assumption) (by decide) ?_ | refine zsn_c (by assumption) (by decide) ?_), ⟨fun _ => ⟨rfl, hZ, rfl, rfl, rfl⟩, fun z => absurd (by omega) z⟩⟩
end
section
set_option maxHeartbeats 4000000 in
set_option maxRecDepth 100000 in
theorem c_X9_isOfW {l : Launch} {Γ : zΓ} {G : zH} {a b : Int} (hX : zXs Γ) (hb : 0 ≤ b ∧ b ≤ 31) : zMet l Γ yX9_isOf cX9_isOf 2 (some .boolean) 0 [zi a, zi b] G (zpi (fun x G' => G' = G ∧ ((x = 0 ∨ x = 1) ∧ (x = 1 ↔ band (bshr a b) 1 = 1)))) := by
  refine zMet_of RX9 hX (by decide) rfl (Nat.le_of_ble_eq_true rfl) ?_
  intro p e s m args below meth c C hr hlk
  show Z p l e (zrm 0) s m args below meth c Γ 2 0 0 (MQ below (zQc Γ (zpi (fun x G' => G' = G ∧ ((x = 0 ∨ x = 1) ∧ (x = 1 ↔ band (bshr a b) 1 = 1))))) args s 0 0 (zA Γ)) 0 [some (zi a), some (zi b)] [] G
  refine zs_loc 0 rfl (fun ha0 hb0 => ?_)
  refine zs_loc 1 rfl (fun ha1 hb1 => ?_)
  refine zs_iload_n (pc := 0) C dX9_isOf_0 rfl ?_
  refine zs_iload_n (pc := 1) C dX9_isOf_1 rfl ?_
  refine zs_ishrX (pc := 2) C dX9_isOf_2 (fun z2 ez2 hz21 hz22 => ?_)
  refine zs_iconst (pc := 3) C dX9_isOf_3 (by decide) ?_
  refine zs_iandX (pc := 4) C dX9_isOf_4 (fun z4 ez4 hz41 hz42 => ?_)
  have hz : z4 = band (bshr a b) 1 := by rw [ez4, ez2]
  refine zs_iconst (pc := 5) C dX9_isOf_5 (by decide) ?_
  refine zs_icmp_ne (tgt := 13) (pc := 6) C dX9_isOf_6 (by decide) (fun h6 => ?_) (fun h6 => ?_)
  · skip
    refine zs_iconst (pc := 13) C dX9_isOf_13 (by decide) ?_
    exact zs_zret (pc := 14) C hr hlk dX9_isOf_14 (by omega) ⟨rfl, (by rw [← hz]; refine ⟨by omega, ?_⟩; constructor <;> intro hq <;> omega)⟩
  · skip
    refine zs_iconst (pc := 9) C dX9_isOf_9 (by decide) ?_
    refine zs_goto (tgt := 14) (pc := 10) C dX9_isOf_10 (by decide) ?_
    exact zs_zret (pc := 14) C hr hlk dX9_isOf_14 (by omega) ⟨rfl, (by rw [← hz]; refine ⟨by omega, ?_⟩; constructor <;> intro hq <;> omega)⟩

set_option maxHeartbeats 4000000 in
set_option maxRecDepth 100000 in
theorem c_X9_laySackW {l : Launch} {Γ : zΓ} {G : zH} {w : Nat} {k s : Int} {A W : aS}  (hX : zXs Γ) (hK : kR Γ w A G) (hW : WI A W) (hT : TA A) (hS : rS Γ w W G) (hk : 0 ≤ k ∧ k < W 0 0) (hs : 0 ≤ s ∧ s < A 4 0)  : zMet l Γ yX9_laySack cX9_laySack 3 none 1 [zr 10 w, zi k, zi s] G (zpv (fun G' => zsm [] G G' ∧ ((∀ j : Nat, j < 7 → (G'.2.1 2079 (Γ.2.1 w 48)) j = wNs A W k s j) ∧ zsj [2079] G G'))) := by
  refine zMet_of RX9 hX (by decide) rfl (Nat.le_of_ble_eq_true rfl) ?_
  intro p e sx9 m args below meth c C hr hlk
  show Z p l e (zrm 1) sx9 m args below meth c Γ 3 0 0 (MQ below (zQc Γ (zpv (fun G' => zsm [] G G' ∧ ((∀ j : Nat, j < 7 → (G'.2.1 2079 (Γ.2.1 w 48)) j = wNs A W k s j) ∧ zsj [2079] G G')))) args sx9 0 0 (zA Γ)) 0 [some (zr 10 w), some (zi k), some (zi s)] [] G
  refine zs_loc 1 rfl (fun ha1 hb1 => ?_)
  refine zs_loc 2 rfl (fun ha2 hb2 => ?_)
  have hT0 := hT.1
  have h00 := hW.1
  have hk2 := (hW.2.1 k.toNat (by omega)).1
  have hk10 := (hW.2.1 k.toNat (by omega)).2.2.2.2.2.2.2.2.2
  obtain ⟨s1, s2, s3, s4, s5, s6, s7, s8⟩ := hS.1 k.toNat (by omega)
  have kS := (hK.2.2.1 s.toNat (by omega)).2
  refine zs_aload_n (pc := 0) C dX9_laySack_0 rfl ?_
  refine zs_aload_n (pc := 1) C dX9_laySack_1 rfl ?_
  refine zs_getf (pc := 2) C dX9_laySack_2 w_X9_30 f_10_25 (by decide) ?_
  refine zs_iload_n (pc := 5) C dX9_laySack_5 rfl ?_
  refine zs_iald (r := 2062) (pc := 6) C dX9_laySack_6 a_62 (by decide) (by omega) rfl (r_2062 _) (fun v6 e6 l6 u6 => ?_)
  have y6 : v6 = A 6 s.toNat := e6.trans kS
  refine zs_aload_n (pc := 7) C dX9_laySack_7 rfl ?_
  refine zs_getf (pc := 8) C dX9_laySack_8 w_X9_133 f_10_67 (by decide) ?_
  refine zs_iload_n (pc := 11) C dX9_laySack_11 rfl ?_
  refine zs_iald (r := 2096) (pc := 12) C dX9_laySack_12 a_96 (by decide) (by omega) rfl (r_2096 _) (fun v12 e12 l12 u12 => ?_)
  have y12 : v12 = W 6 k.toNat := e12.trans s4
  refine zs_aload_n (pc := 13) C dX9_laySack_13 rfl ?_
  refine zs_getf (pc := 14) C dX9_laySack_14 w_X9_136 f_10_68 (by decide) ?_
  refine zs_iload_n (pc := 17) C dX9_laySack_17 rfl ?_
  refine zs_iald (r := 2097) (pc := 18) C dX9_laySack_18 a_97 (by decide) (by omega) rfl (r_2097 _) (fun v18 e18 l18 u18 => ?_)
  have y18 : v18 = W 7 k.toNat := e18.trans s5
  refine zs_aload_n (pc := 19) C dX9_laySack_19 rfl ?_
  refine zs_getf (pc := 20) C dX9_laySack_20 w_X9_139 f_10_69 (by decide) ?_
  refine zs_iload_n (pc := 23) C dX9_laySack_23 rfl ?_
  refine zs_iald (r := 2098) (pc := 24) C dX9_laySack_24 a_98 (by decide) (by omega) rfl (r_2098 _) (fun v24 e24 l24 u24 => ?_)
  have y24 : v24 = W 8 k.toNat := e24.trans s6
  refine zs_aload_n (pc := 25) C dX9_laySack_25 rfl ?_
  refine zs_getf (pc := 26) C dX9_laySack_26 w_X9_145 f_10_71 (by decide) ?_
  refine zs_iload_n (pc := 29) C dX9_laySack_29 rfl ?_
  refine zs_iald (r := 2100) (pc := 30) C dX9_laySack_30 a_100 (by decide) (by omega) rfl (r_2100 _) (fun v30 e30 l30 u30 => ?_)
  have y30 : v30 = W 10 k.toNat := e30.trans s8
  refine zs_iload_n (pc := 31) C dX9_laySack_31 rfl ?_
  refine zSip2 (pc := 32) C dX9_laySack_32 s_X9_516 (c_X9_isOfW hX (by omega)) (by decide) ⟨Nat.zero_le _, Nat.zero_le _⟩ (Nat.le_of_ble_eq_true rfl) (fun x32 l32 u32 hp32 => ?_)
  have hq32 := hp32
  have hb1 := b1_i (v := W 10 k.toNat) (s := s) hk10 (by omega)
  rw [y30] at hq32
  refine zs_if_eq (tgt := 42) (pc := 35) C dX9_laySack_35 (by decide) (fun h35 => ?_) (fun h35 => ?_)
  · skip
    refine zs_iconst (pc := 42) C dX9_laySack_42 (by decide) ?_
    refine zs_aload_n (pc := 43) C dX9_laySack_43 rfl ?_
    refine zs_getf (pc := 44) C dX9_laySack_44 w_X9_36 f_10_27 (by decide) ?_
    refine zs_aload_n (pc := 47) C dX9_laySack_47 rfl ?_
    refine zs_getf (pc := 48) C dX9_laySack_48 w_X9_118 f_10_62 (by decide) ?_
    refine zs_iload_n (pc := 51) C dX9_laySack_51 rfl ?_
    refine zs_iald (r := 2091) (pc := 52) C dX9_laySack_52 a_91 (by decide) (by omega) rfl (r_2091 _) (fun v52 e52 l52 u52 => ?_)
    have y52 : v52 = W 1 k.toNat := e52.trans s1
    subst y52
    refine zs_iald (r := 2064) (pc := 53) C dX9_laySack_53 a_64 (by decide) (by omega) rfl (r_2064 _) (fun v53 e53 l53 u53 => ?_)
    have y53 : v53 = A 7 (W 1 k.toNat).toNat := e53.trans (hK.2.2.2.1 (W 1 k.toNat).toNat (by omega)).2
    refine zs_aload_n (pc := 54) C dX9_laySack_54 rfl ?_
    refine zs_getf (pc := 55) C dX9_laySack_55 w_X9_142 f_10_70 (by decide) ?_
    refine zs_iload_n (pc := 58) C dX9_laySack_58 rfl ?_
    refine zs_iald (r := 2099) (pc := 59) C dX9_laySack_59 a_99 (by decide) (by omega) rfl (r_2099 _) (fun v59 e59 l59 u59 => ?_)
    have y59 : v59 = W 9 k.toNat := e59.trans s7
    refine zVv7 (pc := 60) C dX9_laySack_60 v_X9_410 (c_X9_layNamesW hX ) (by decide) (by decide) ⟨Nat.zero_le _, Nat.zero_le _⟩ (Nat.le_of_ble_eq_true rfl) (fun G60 hp60 => ?_)
    obtain ⟨hz60, hq60⟩ := hp60
    exact zs_vret (pc := 63) C hr hlk dX9_laySack_63 ⟨hz60, ⟨fun j hj => by rw [hq60.1 j hj, y6, y12, y18, y24, y53, y59]; unfold wNs wLie; rcases (show j = 0 ∨ j = 1 ∨ j = 2 ∨ j = 3 ∨ j = 4 ∨ j = 5 ∨ j = 6 by omega) with rfl | rfl | rfl | rfl | rfl | rfl | rfl <;> first | rfl | (show (0 : Int) = if band (bshr (W 10 k.toNat) s) 1 = 0 then 1 else 0; rw [if_neg (by omega)]) | (show (1 : Int) = if band (bshr (W 10 k.toNat) s) 1 = 0 then 1 else 0; rw [if_pos (by omega)]), hq60.2⟩⟩
  · skip
    refine zs_iconst (pc := 38) C dX9_laySack_38 (by decide) ?_
    refine zs_goto (tgt := 43) (pc := 39) C dX9_laySack_39 (by decide) ?_
    refine zs_aload_n (pc := 43) C dX9_laySack_43 rfl ?_
    refine zs_getf (pc := 44) C dX9_laySack_44 w_X9_36 f_10_27 (by decide) ?_
    refine zs_aload_n (pc := 47) C dX9_laySack_47 rfl ?_
    refine zs_getf (pc := 48) C dX9_laySack_48 w_X9_118 f_10_62 (by decide) ?_
    refine zs_iload_n (pc := 51) C dX9_laySack_51 rfl ?_
    refine zs_iald (r := 2091) (pc := 52) C dX9_laySack_52 a_91 (by decide) (by omega) rfl (r_2091 _) (fun v52 e52 l52 u52 => ?_)
    have y52 : v52 = W 1 k.toNat := e52.trans s1
    subst y52
    refine zs_iald (r := 2064) (pc := 53) C dX9_laySack_53 a_64 (by decide) (by omega) rfl (r_2064 _) (fun v53 e53 l53 u53 => ?_)
    have y53 : v53 = A 7 (W 1 k.toNat).toNat := e53.trans (hK.2.2.2.1 (W 1 k.toNat).toNat (by omega)).2
    refine zs_aload_n (pc := 54) C dX9_laySack_54 rfl ?_
    refine zs_getf (pc := 55) C dX9_laySack_55 w_X9_142 f_10_70 (by decide) ?_
    refine zs_iload_n (pc := 58) C dX9_laySack_58 rfl ?_
    refine zs_iald (r := 2099) (pc := 59) C dX9_laySack_59 a_99 (by decide) (by omega) rfl (r_2099 _) (fun v59 e59 l59 u59 => ?_)
    have y59 : v59 = W 9 k.toNat := e59.trans s7
    refine zVv7 (pc := 60) C dX9_laySack_60 v_X9_410 (c_X9_layNamesW hX ) (by decide) (by decide) ⟨Nat.zero_le _, Nat.zero_le _⟩ (Nat.le_of_ble_eq_true rfl) (fun G60 hp60 => ?_)
    obtain ⟨hz60, hq60⟩ := hp60
    exact zs_vret (pc := 63) C hr hlk dX9_laySack_63 ⟨hz60, ⟨fun j hj => by rw [hq60.1 j hj, y6, y12, y18, y24, y53, y59]; unfold wNs wLie; rcases (show j = 0 ∨ j = 1 ∨ j = 2 ∨ j = 3 ∨ j = 4 ∨ j = 5 ∨ j = 6 by omega) with rfl | rfl | rfl | rfl | rfl | rfl | rfl <;> first | rfl | (show (0 : Int) = if band (bshr (W 10 k.toNat) s) 1 = 0 then 1 else 0; rw [if_neg (by omega)]) | (show (1 : Int) = if band (bshr (W 10 k.toNat) s) 1 = 0 then 1 else 0; rw [if_pos (by omega)]), hq60.2⟩⟩

set_option maxHeartbeats 4000000 in
set_option maxRecDepth 100000 in
theorem c_X9_knownByW {l : Launch} {Γ : zΓ} {G : zH} {w : Nat} {W : aS}  (hX : zXs Γ) (hR : rW Γ w 0 W G) (hS : rS Γ w W G) (h22 : -1 ≤ W 22 0)  : zMet l Γ yX9_knownBy cX9_knownBy 1 (some .int) 0 [zr 10 w] G (zpi (fun x G' => G' = G ∧ (x = wKn W))) := by
  refine zMet_of RX9 hX (by decide) rfl (Nat.le_of_ble_eq_true rfl) ?_
  intro p e s m args below meth c C hr hlk
  show Z p l e (zrm 0) s m args below meth c Γ 1 0 0 (MQ below (zQc Γ (zpi (fun x G' => G' = G ∧ (x = wKn W)))) args s 0 0 (zA Γ)) 0 [some (zr 10 w)] [] G
  have r1 := hR.2.2.1.1
  have s2 := hS.2
  refine zs_aload_n (pc := 0) C dX9_knownBy_0 rfl ?_
  refine zs_geti (r := 1083) (pc := 1) C dX9_knownBy_1 w_X9_379 f_10_83 rfl (r_1083 0) (fun v1 e1 l1 u1 => ?_)
  refine zs_if_lt (tgt := 20) (pc := 4) C dX9_knownBy_4 (by decide) (fun h4 => ?_) (fun h4 => ?_)
  · skip
    refine zs_aload_n (pc := 20) C dX9_knownBy_20 rfl ?_
    refine zs_getf (pc := 21) C dX9_knownBy_21 w_X9_106 f_10_57 (by decide) ?_
    refine zs_iconst (pc := 24) C dX9_knownBy_24 (by decide) ?_
    refine zs_iald (r := 2087) (pc := 25) C dX9_knownBy_25 a_87 (by decide) (by omega) rfl (r_2087 _) (fun v25 e25 l25 u25 => ?_)
    refine zs_goto (tgt := 33) (pc := 26) C dX9_knownBy_26 (by decide) ?_
    exact zs_iret (pc := 33) C hr hlk dX9_knownBy_33 ⟨rfl, (by unfold wKn; have y1 : v1 = W 22 0 := e1.trans s2; first | (have y25 : v25 = W 0 0 := e25.trans r1; first | (have y16 : v16 = W 0 0 := e16.trans r1; have y8 : v8 = W 22 0 := e8.trans s2; split <;> omega) | (split <;> omega)) | (have y16 : v16 = W 0 0 := e16.trans r1; have y30 : v30 = W 22 0 := e30.trans s2; split <;> omega))⟩
  · skip
    refine zs_aload_n (pc := 7) C dX9_knownBy_7 rfl ?_
    refine zs_geti (r := 1083) (pc := 8) C dX9_knownBy_8 w_X9_379 f_10_83 rfl (r_1083 0) (fun v8 e8 l8 u8 => ?_)
    refine zs_aload_n (pc := 11) C dX9_knownBy_11 rfl ?_
    refine zs_getf (pc := 12) C dX9_knownBy_12 w_X9_106 f_10_57 (by decide) ?_
    refine zs_iconst (pc := 15) C dX9_knownBy_15 (by decide) ?_
    refine zs_iald (r := 2087) (pc := 16) C dX9_knownBy_16 a_87 (by decide) (by omega) rfl (r_2087 _) (fun v16 e16 l16 u16 => ?_)
    refine zs_icmp_le (tgt := 29) (pc := 17) C dX9_knownBy_17 (by decide) (fun h17 => ?_) (fun h17 => ?_)
    · skip
      refine zs_aload_n (pc := 29) C dX9_knownBy_29 rfl ?_
      refine zs_geti (r := 1083) (pc := 30) C dX9_knownBy_30 w_X9_379 f_10_83 rfl (r_1083 0) (fun v30 e30 l30 u30 => ?_)
      exact zs_iret (pc := 33) C hr hlk dX9_knownBy_33 ⟨rfl, (by unfold wKn; have y1 : v1 = W 22 0 := e1.trans s2; first | (have y25 : v25 = W 0 0 := e25.trans r1; first | (have y16 : v16 = W 0 0 := e16.trans r1; have y8 : v8 = W 22 0 := e8.trans s2; split <;> omega) | (split <;> omega)) | (have y16 : v16 = W 0 0 := e16.trans r1; have y30 : v30 = W 22 0 := e30.trans s2; split <;> omega))⟩
    · skip
      refine zs_aload_n (pc := 20) C dX9_knownBy_20 rfl ?_
      refine zs_getf (pc := 21) C dX9_knownBy_21 w_X9_106 f_10_57 (by decide) ?_
      refine zs_iconst (pc := 24) C dX9_knownBy_24 (by decide) ?_
      refine zs_iald (r := 2087) (pc := 25) C dX9_knownBy_25 a_87 (by decide) (by omega) rfl (r_2087 _) (fun v25 e25 l25 u25 => ?_)
      refine zs_goto (tgt := 33) (pc := 26) C dX9_knownBy_26 (by decide) ?_
      exact zs_iret (pc := 33) C hr hlk dX9_knownBy_33 ⟨rfl, (by unfold wKn; have y1 : v1 = W 22 0 := e1.trans s2; first | (have y25 : v25 = W 0 0 := e25.trans r1; first | (have y16 : v16 = W 0 0 := e16.trans r1; have y8 : v8 = W 22 0 := e8.trans s2; split <;> omega) | (split <;> omega)) | (have y16 : v16 = W 0 0 := e16.trans r1; have y30 : v30 = W 22 0 := e30.trans s2; split <;> omega))⟩

set_option maxHeartbeats 4000000 in
set_option maxRecDepth 100000 in
theorem c_X9_knownW {l : Launch} {Γ : zΓ} {G : zH} {w : Nat} {a : Int} {W : aS}  (hX : zXs Γ) (hR : rW Γ w 0 W G) (hS : rS Γ w W G)  : zMet l Γ yX9_known cX9_known 2 (some .boolean) 1 [zr 10 w, zi a] G (zpi (fun x G' => zsm [1002, 1083] G G' ∧ ((x = 0 ∨ x = 1) ∧ (x = 1 ↔ (-1 ≤ a ∧ a ≤ W 0 0)) ∧ rW Γ w 0 (if (-1 ≤ a ∧ a ≤ W 0 0) then up W 22 0 a else W) G' ∧ rS Γ w (if (-1 ≤ a ∧ a ≤ W 0 0) then up W 22 0 a else W) G' ∧ G'.2.1 = G.2.1))) := by
  refine zMet_of RX9 hX (by decide) rfl (Nat.le_of_ble_eq_true rfl) ?_
  intro p e s m args below meth c C hr hlk
  show Z p l e (zrm 1) s m args below meth c Γ 2 0 0 (MQ below (zQc Γ (zpi (fun x G' => zsm [1002, 1083] G G' ∧ ((x = 0 ∨ x = 1) ∧ (x = 1 ↔ (-1 ≤ a ∧ a ≤ W 0 0)) ∧ rW Γ w 0 (if (-1 ≤ a ∧ a ≤ W 0 0) then up W 22 0 a else W) G' ∧ rS Γ w (if (-1 ≤ a ∧ a ≤ W 0 0) then up W 22 0 a else W) G' ∧ G'.2.1 = G.2.1)))) args s 0 0 (zA Γ)) 0 [some (zr 10 w), some (zi a)] [] G
  refine zs_loc 1 rfl (fun ha1 hb1 => ?_)
  have r1 := hR.2.2.1.1
  refine zs_aload_n (pc := 0) C dX9_known_0 rfl ?_
  refine zs_iconst (pc := 1) C dX9_known_1 (by decide) ?_
  refine zs_puti (r := 1002) (pc := 2) C dX9_known_2 w_X9_178 f_10_2 rfl (r_1002 0) (by omega) ?_
  refine zs_iload_n (pc := 5) C dX9_known_5 rfl ?_
  refine zs_iconst (pc := 6) C dX9_known_6 (by decide) ?_
  refine zs_aload_n (pc := 7) C dX9_known_7 rfl ?_
  refine zs_getf (pc := 8) C dX9_known_8 w_X9_106 f_10_57 (by decide) ?_
  refine zs_iconst (pc := 11) C dX9_known_11 (by decide) ?_
  refine zs_iald (r := 2087) (pc := 12) C dX9_known_12 a_87 (by decide) (by omega) rfl (r_2087 _) (fun v12 e12 l12 u12 => ?_)
  try simp only [zuI_1, zuI_2, zuJ_1, zuJ_2, zuJ_3, zuP_1, zuP_2, zuP_3, zuC_1, zuC_2, reduceIte, Nat.reduceEqDiff, false_and, and_false, true_and, and_true, and_self, or_true, true_or, or_false, false_or] at e12
  have y12 : v12 = W 0 0 := e12.trans r1
  refine zSip3 (pc := 13) C dX9_known_13 s_X9_223 (c_X9_isIn hX ) (by decide) ⟨Nat.zero_le _, Nat.zero_le _⟩ (Nat.le_of_ble_eq_true rfl) (fun x13 l13 u13 hp13 => ?_)
  have hq13 := hp13
  try simp only [zuI_1, zuI_2, zuJ_1, zuJ_2, zuJ_3, zuP_1, zuP_2, zuP_3, zuC_1, zuC_2, reduceIte, Nat.reduceEqDiff, false_and, and_false, true_and, and_true, and_self, or_true, true_or, or_false, false_or] at hq13
  refine zs_if_ne (tgt := 21) (pc := 16) C dX9_known_16 (by decide) (fun h16 => ?_) (fun h16 => ?_)
  · skip
    refine zs_aload_n (pc := 21) C dX9_known_21 rfl ?_
    refine zs_iload_n (pc := 22) C dX9_known_22 rfl ?_
    refine zs_puti (r := 1083) (pc := 23) C dX9_known_23 w_X9_379 f_10_83 rfl (r_1083 0) (by omega) ?_
    refine zs_iconst (pc := 26) C dX9_known_26 (by decide) ?_
    exact zs_zret (pc := 27) C hr hlk dX9_known_27 (by omega) (by
        have hok : (-1 ≤ a ∧ a ≤ W 0 0) := by have q := hq13.2.mp (by omega); omega
        exact ⟨by repeat (first | exact zsm_rf | assumption | refine zsm_C (by decide) ?_ | refine zsm_I (by decide) ?_ | refine zsm_J ?_ | refine zsm_c (by assumption) (by decide) ?_), ⟨Or.inr rfl, ⟨fun _ => hok, fun _ => rfl⟩, by rw [if_pos hok]; exact rW_Q (wQ_s (wQ_u (Or.inr rfl) wQ_rf)) (by repeat (first | assumption | refine rW_sm (by assumption) (by decide) ?_ | refine rW_I (by decide) ?_ | refine rW_J ?_)), by rw [if_pos hok]; exact ⟨(by have q := hS.1; rw [up_f (by decide)]; exact rQ_22 (rQ_z (rs := [1002, 1083]) (by repeat (first | exact zsm_rf | assumption | refine zsm_C (by decide) ?_ | refine zsm_I (by decide) ?_ | refine zsm_J ?_ | refine zsm_c (by assumption) (by decide) ?_)) (by decide) q)), by simp only [zuI_1, zuI_2, zuJ_1, zuJ_2, zuJ_3, zuP_1, zuP_2, zuP_3, zuC_1, zuC_2, reduceIte, Nat.reduceEqDiff, false_and, and_false, true_and, and_true, and_self, or_true, true_or, or_false, false_or, up_eq]⟩, rfl⟩⟩)
  · skip
    refine zs_iconst (pc := 19) C dX9_known_19 (by decide) ?_
    exact zs_zret (pc := 20) C hr hlk dX9_known_20 (by omega) (by
        have hno : ¬ (-1 ≤ a ∧ a ≤ W 0 0) := fun z => by have := hq13.2.mpr ⟨z.1, by omega⟩; omega
        exact ⟨by repeat (first | exact zsm_rf | assumption | refine zsm_C (by decide) ?_ | refine zsm_I (by decide) ?_ | refine zsm_J ?_ | refine zsm_c (by assumption) (by decide) ?_), ⟨Or.inl rfl, ⟨fun z => absurd z (by decide), fun z => absurd z hno⟩, by rw [if_neg hno]; repeat (first | assumption | refine rW_sm (by assumption) (by decide) ?_ | refine rW_I (by decide) ?_ | refine rW_J ?_), by rw [if_neg hno]; repeat (first | assumption | refine rS_sm (by assumption) (by decide) ?_ | refine rS_I (by decide) ?_ | refine rS_J ?_), rfl⟩⟩)

set_option maxHeartbeats 4000000 in
set_option maxRecDepth 100000 in
theorem c_X9_isFitW {l : Launch} {Γ : zΓ} {G : zH} {w : Nat} {k : Int} {A W : aS}  (hX : zXs Γ) (hR : rW Γ w 0 W G) (hK : kR Γ w A G) (hW : WI A W) (hT : TA A) (hS : rS Γ w W G) (hk : 0 ≤ k ∧ k < 7)  : zMet l Γ yX9_isFit cX9_isFit 3 (some .boolean) 4 [zr 10 w, zi k] G (zpi (fun x G' => zsm [1050] G G' ∧ ((x = 0 ∨ x = 1) ∧ (x = 1 ↔ wFt A W k (wKn W)) ∧ zsj [2079, 2080] G G'))) := by
  refine zMet_of RX9 hX (by decide) rfl (Nat.le_of_ble_eq_true rfl) ?_
  intro p e s m args below meth c C hr hlk
  show Z p l e (zrm 4) s m args below meth c Γ 3 0 0 (MQ below (zQc Γ (zpi (fun x G' => zsm [1050] G G' ∧ ((x = 0 ∨ x = 1) ∧ (x = 1 ↔ wFt A W k (wKn W)) ∧ zsj [2079, 2080] G G')))) args s 0 0 (zA Γ)) 0 [some (zr 10 w), some (zi k), none] [] G
  refine zs_loc 1 rfl (fun ha1 hb1 => ?_)
  have hT0 := hT.1
  have h00 := hW.1
  have h22 := hW.2.2.2.2.2.2.2.2.2
  have hkn := wKn_in hW
  refine zs_iconst (pc := 0) C dX9_isFit_0 (by decide) ?_
  refine zs_istore_n (pc := 1) C dX9_isFit_1 (by decide) ?_
  dsimp only [zset, zclr, znone]
  have L2 : ∀ (nn : Nat) (x2 : Int) (G1 : zH), (0 ≤ x2 ∧ x2 ≤ wKn W) → (zsm [1050] G G1) → (wFt A W k x2) → (zsj [2079, 2080] G G1) → (60 - x2).toNat < nn → Z p l e (zrm 4) s m args below meth c Γ 3 0 0 (MQ below (zQc Γ (zpi (fun x G' => zsm [1050] G G' ∧ ((x = 0 ∨ x = 1) ∧ (x = 1 ↔ wFt A W k (wKn W)) ∧ zsj [2079, 2080] G G')))) args s 0 0 (zA Γ)) 2 [some (zr 10 w), some (zi k), some (zi x2)] [] G1 := by
    intro nn
    induction nn with
    | zero => intro x2 G1 h2_0 h2_1 h2_2 h2_3 hm; exact absurd hm (Nat.not_lt_zero _)
    | succ nn ih2 =>
      intro x2 G1 h2_0 h2_1 h2_2 h2_3 hm2
      refine zs_iload_n (pc := 2) C dX9_isFit_2 rfl ?_
      refine zs_aload_n (pc := 3) C dX9_isFit_3 rfl ?_
      refine zVip0 (pc := 4) C dX9_isFit_4 v_X9_541 (c_X9_knownByW hX (rW_sm h2_1 (by decide) hR) (rS_sm h2_1 (by decide) hS) h22.1) (by decide) (by decide) ⟨Nat.zero_le _, Nat.zero_le _⟩ (Nat.le_of_ble_eq_true rfl) (fun x4 l4 u4 hp4 => ?_)
      have hq4 := hp4
      refine zs_icmp_ge (tgt := 57) (pc := 7) C dX9_isFit_7 (by decide) (fun h7 => ?_) (fun h7 => ?_)
      · skip
        refine zs_iconst (pc := 57) C dX9_isFit_57 (by decide) ?_
        exact zs_zret (pc := 58) C hr hlk dX9_isFit_58 (by omega) ⟨by repeat (first | exact zsm_rf | assumption | refine zsm_C (by decide) ?_ | refine zsm_I (by decide) ?_ | refine zsm_J ?_ | refine zsm_c (by assumption) (by decide) ?_), ⟨Or.inr rfl, ⟨fun _ => (by have e : x2 = wKn W := (by omega); rw [← e]; exact h2_2), fun _ => rfl⟩, h2_3⟩⟩
      · skip
        refine zs_aload_n (pc := 10) C dX9_isFit_10 rfl ?_
        refine zs_iload_n (pc := 11) C dX9_isFit_11 rfl ?_
        refine zs_aload_n (pc := 12) C dX9_isFit_12 rfl ?_
        refine zs_getf (pc := 13) C dX9_isFit_13 w_X9_121 f_10_63 (by decide) ?_
        refine zs_iload_n (pc := 16) C dX9_isFit_16 rfl ?_
        refine zs_iald (r := 2092) (pc := 17) C dX9_isFit_17 a_92 (by decide) (by omega) rfl (r_2092 _) (fun v17 e17 l17 u17 => ?_)
        have hk2 := (hW.2.1 x2.toNat (by omega)).2.1
        obtain ⟨s1, s2, -⟩ := hS.1 x2.toNat (by omega)
        have y17 : v17 = W 2 x2.toNat := e17.trans (by rw [h2_1.1 2092 (by decide)]; exact s2)
        subst y17
        refine zVv2 (pc := 18) C dX9_isFit_18 v_X9_519 (c_X9_laySackW (A := A) (W := W) hX (kR_sm h2_1 (by decide) hK) hW hT (rS_sm h2_1 (by decide) hS) (by omega) (by omega)) (by decide) (by decide) ⟨Nat.zero_le _, Nat.zero_le _⟩ (Nat.le_of_ble_eq_true rfl) (fun G18 hp18 => ?_)
        obtain ⟨hz18, hq18⟩ := hp18
        have hj18 := hq18.2
        refine zs_aload_n (pc := 21) C dX9_isFit_21 rfl ?_
        refine zs_iload_n (pc := 22) C dX9_isFit_22 rfl ?_
        refine zs_aload_n (pc := 23) C dX9_isFit_23 rfl ?_
        refine zs_getf (pc := 24) C dX9_isFit_24 w_X9_30 f_10_25 (by decide) ?_
        refine zs_aload_n (pc := 27) C dX9_isFit_27 rfl ?_
        refine zs_getf (pc := 28) C dX9_isFit_28 w_X9_121 f_10_63 (by decide) ?_
        refine zs_iload_n (pc := 31) C dX9_isFit_31 rfl ?_
        refine zs_iald (r := 2092) (pc := 32) C dX9_isFit_32 a_92 (by decide) (by omega) rfl (r_2092 _) (fun v32 e32 l32 u32 => ?_)
        have y32 : v32 = W 2 x2.toNat := e32.trans (by rw [hz18.1 2092 (by decide), h2_1.1 2092 (by decide)]; exact s2)
        subst y32
        refine zs_iald (r := 2062) (pc := 33) C dX9_isFit_33 a_62 (by decide) (by omega) rfl (r_2062 _) (fun v33 e33 l33 u33 => ?_)
        have y33 : v33 = A 6 (W 2 x2.toNat).toNat := e33.trans (by rw [hz18.1 2062 (by decide), h2_1.1 2062 (by decide)]; exact (hK.2.2.1 (W 2 x2.toNat).toNat (by omega)).2)
        subst y33
        refine zs_sipush (pc := 34) C dX9_isFit_34 (by decide) (by decide) ?_
        refine zVi3 (pc := 37) C dX9_isFit_37 v_X9_424 (c_X9_boundLawW (nm := wNs A W x2 (W 2 x2.toNat)) hX (kR_sm hz18 (by decide) (kR_sm h2_1 (by decide) hK)) hT.2.2.2.2.2.2 hk hq18.1 (wNs_in hT hW (by omega) (by omega) (by omega))) (by decide) (by decide) ⟨Nat.zero_le _, Nat.zero_le _⟩ (Nat.le_of_ble_eq_true rfl) (fun x37 G37 l37 u37 hp37 => ?_)
        obtain ⟨hz37, hq37⟩ := hp37
        have hj37 := hq37.2
        have hx37 : x37 = wThen A W x2 k (W 2 x2.toNat) := hq37.1
        refine zs_aload_n (pc := 40) C dX9_isFit_40 rfl ?_
        refine zs_getf (pc := 41) C dX9_isFit_41 w_X9_124 f_10_64 (by decide) ?_
        refine zs_iload_n (pc := 44) C dX9_isFit_44 rfl ?_
        refine zs_iald (r := 2093) (pc := 45) C dX9_isFit_45 a_93 (by decide) (by omega) rfl (r_2093 _) (fun v45 e45 l45 u45 => ?_)
        have y45 : v45 = W 3 x2.toNat := e45.trans (by rw [hz37.1 2093 (by decide), hz18.1 2093 (by decide), h2_1.1 2093 (by decide)]; have q := (hR.2.2.2 x2.toNat (by omega)).1; rw [show (60 * (0 : Int) + (x2.toNat : Int)).toNat = x2.toNat by omega] at q; exact q)
        refine zs_icmp_eq (tgt := 51) (pc := 46) C dX9_isFit_46 (by decide) (fun h46 => ?_) (fun h46 => ?_)
        · skip
          first | refine zs_iinc (pc := 51) C dX9_isFit_51 rfl (by decide) (by omega) ?_ | refine zs_iincF (pc := 51) C dX9_isFit_51 rfl (by decide) (fun z51 hz511 hz512 => ?_)
          dsimp only [zset, zclr, znone]
          refine zs_goto (tgt := 2) (pc := 54) C dX9_isFit_54 (by decide) ?_
          exact zs_wk (ih2 _ _ (by omega) (by repeat (first | exact zsm_rf | assumption | refine zsm_C (by decide) ?_ | refine zsm_I (by decide) ?_ | refine zsm_J ?_ | refine zsm_c (by assumption) (by decide) ?_)) ((wFt_s (by omega)).mpr ⟨h2_2, by omega⟩) (by repeat (first | exact zsj_rf | assumption | refine zsj_I ?_ | refine zsj_J (by decide) ?_ | refine zsj_e (by assumption) ?_ | refine zsj_c (by assumption) (by decide) ?_)) (by first | omega | (simp only [zuI_1, zuI_2, zuJ_1, zuJ_2, zuJ_3, zuP_1, zuP_2, zuP_3, zuC_1, zuC_2, reduceIte, Nat.reduceEqDiff, false_and, and_false, true_and, and_true, and_self, or_true, true_or, or_false, false_or]; omega))) (zwk_s rfl (zwk_s rfl (zwk_s rfl zwk_0)))
        · skip
          refine zs_iconst (pc := 49) C dX9_isFit_49 (by decide) ?_
          exact zs_zret (pc := 50) C hr hlk dX9_isFit_50 (by omega) ⟨by repeat (first | exact zsm_rf | assumption | refine zsm_C (by decide) ?_ | refine zsm_I (by decide) ?_ | refine zsm_J ?_ | refine zsm_c (by assumption) (by decide) ?_), ⟨Or.inl rfl, ⟨fun q => absurd q (by decide), fun q => absurd q (wFt_no (k := x2) (by omega) (by omega))⟩, (by repeat (first | exact zsj_rf | assumption | refine zsj_I ?_ | refine zsj_J (by decide) ?_ | refine zsj_e (by assumption) ?_ | refine zsj_c (by assumption) (by decide) ?_))⟩⟩
  exact zs_wk (L2 _ _ _ (by omega) zsm_rf (by exact trivial) zsj_rf (Nat.lt_succ_self _)) (zwk_s rfl (zwk_s rfl (zwk_s rfl zwk_0)))

/-- the bit of the law as told -/
noncomputable def wF0 (A W : aS) : Int := if wFI A W 0 = 1 then p2 (A 4 3).toNat else 0
theorem wF0_in {A W : aS} : wF0 A W = 0 ∨ wF0 A W = p2 (A 4 3).toNat := by
  unfold wF0
  split
  · exact Or.inr rfl
  · exact Or.inl rfl
theorem bsh_p2 : ∀ k : Nat, k < 4 → bshl 1 k = p2 k := by decide +kernel
theorem bsh_i {k : Int} (h : 0 ≤ k ∧ k < 4) : bshl 1 k = p2 k.toNat := by
  have q := bsh_p2 k.toNat (by omega)
  rwa [show ((k.toNat : Nat) : Int) = k by omega] at q
theorem bor_q : ∀ M : Nat, M < 4 → ∀ k : Nat, k < M → ∀ y : Nat, y < 8 → (y : Int) < p2 k → bor (p2 M + y) (bshl 1 k) = p2 M + y + p2 k ∧ bor (p2 M + y) 0 = p2 M + y := by decide +kernel
theorem bor_2 {M k B y : Int} (hM : 0 ≤ M ∧ M ≤ 3) (hk : 0 ≤ k ∧ k < M) (hB : B = 0 ∨ B = p2 M.toNat) (hy : 0 ≤ y ∧ y < p2 k.toNat) : bor (B + y) (bshl 1 k) = B + y + p2 k.toNat ∧ bor (B + y) 0 = B + y := by
  rcases hB with rfl | rfl
  · rw [Int.zero_add]
    exact bor_i (by omega) hy
  · have h8 : p2 k.toNat ≤ 8 := (show ∀ k : Nat, k < 4 → p2 k ≤ 8 by decide) k.toNat (by omega)
    have h := bor_q M.toNat (by omega) k.toNat (by omega) y.toNat (by omega) (by omega)
    rwa [show ((k.toNat : Nat) : Int) = k by omega, show ((y.toNat : Nat) : Int) = y by omega] at h

set_option maxHeartbeats 4000000 in
set_option maxRecDepth 100000 in
theorem c_X9_fitsW {l : Launch} {Γ : zΓ} {G : zH} {w : Nat} {A W : aS}  (hX : zXs Γ) (hR : rW Γ w 0 W G) (hK : kR Γ w A G) (hW : WI A W) (hT : TA A) (hS : rS Γ w W G)  : zMet l Γ yX9_fits cX9_fits 3 (some .int) 5 [zr 10 w] G (zpi (fun x G' => zsm [1002, 1050] G G' ∧ (x = wFB A W ∧ zsj [2079, 2080] G G'))) := by
  refine zMet_of RX9 hX (by decide) rfl (Nat.le_of_ble_eq_true rfl) ?_
  intro p e s m args below meth c C hr hlk
  show Z p l e (zrm 5) s m args below meth c Γ 3 0 0 (MQ below (zQc Γ (zpi (fun x G' => zsm [1002, 1050] G G' ∧ (x = wFB A W ∧ zsj [2079, 2080] G G')))) args s 0 0 (zA Γ)) 0 [some (zr 10 w), none, none] [] G
  have hT0 := hT.1
  have k15 := hK.1.2.2.2.1
  refine zs_aload_n (pc := 0) C dX9_fits_0 rfl ?_
  refine zs_iconst (pc := 1) C dX9_fits_1 (by decide) ?_
  refine zs_puti (r := 1002) (pc := 2) C dX9_fits_2 w_X9_178 f_10_2 rfl (r_1002 0) (by omega) ?_
  refine zs_aload_n (pc := 5) C dX9_fits_5 rfl ?_
  refine zs_iconst (pc := 6) C dX9_fits_6 (by decide) ?_
  refine zVi1 (pc := 7) C dX9_fits_7 v_X9_544 (c_X9_isFitW (A := A) (W := W) hX (by repeat (first | assumption | refine rW_sm (by assumption) (by decide) ?_ | refine rW_I (by decide) ?_ | refine rW_J ?_)) (by repeat (first | assumption | refine kR_sm (by assumption) (by decide) ?_ | refine kR_I (by decide) ?_ | refine kR_J ?_)) hW hT (by repeat (first | assumption | refine rS_sm (by assumption) (by decide) ?_ | refine rS_I (by decide) ?_ | refine rS_J ?_)) (by decide)) (by decide) (by decide) ⟨Nat.zero_le _, Nat.zero_le _⟩ (Nat.le_of_ble_eq_true rfl) (fun x7 G7 l7 u7 hp7 => ?_)
  obtain ⟨hz7, hq7⟩ := hp7
  try simp only [zuI_1, zuI_2, zuJ_1, zuJ_2, zuJ_3, zuP_1, zuP_2, zuP_3, zuC_1, zuC_2, reduceIte, Nat.reduceEqDiff, false_and, and_false, true_and, and_true, and_self, or_true, true_or, or_false, false_or] at hq7
  have hj7 := hq7.2.2
  have J23 : ∀ (vb : Int), (vb = wF0 A W) → Z p l e (zrm 5) s m args below meth c Γ 3 0 0 (MQ below (zQc Γ (zpi (fun x G' => zsm [1002, 1050] G G' ∧ (x = wFB A W ∧ zsj [2079, 2080] G G')))) args s 0 0 (zA Γ)) 23 [some (zr 10 w), none, none] [zi vb] G7 := by
    intro vb h23_0
    have hvb := h23_0
    refine zs_istore_n (pc := 23) C dX9_fits_23 (by decide) ?_
    dsimp only [zset, zclr, znone]
    refine zs_iconst (pc := 24) C dX9_fits_24 (by decide) ?_
    refine zs_istore_n (pc := 25) C dX9_fits_25 (by decide) ?_
    dsimp only [zset, zclr, znone]
    have L26 : ∀ (nn : Nat) (x1 x2 : Int) (G1 : zH), (0 ≤ x2 ∧ x2 ≤ A 4 3) → (x1 = wF0 A W + wBi (fun j => wFI A W (4 + (j : Int))) x2.toNat) → (zsm [1002, 1050] G G1) → (zsj [2079, 2080] G G1) → (4 - x2).toNat < nn → Z p l e (zrm 5) s m args below meth c Γ 3 0 0 (MQ below (zQc Γ (zpi (fun x G' => zsm [1002, 1050] G G' ∧ (x = wFB A W ∧ zsj [2079, 2080] G G')))) args s 0 0 (zA Γ)) 26 [some (zr 10 w), some (zi x1), some (zi x2)] [] G1 := by
      intro nn
      induction nn with
      | zero => intro x1 x2 G1 h26_0 h26_1 h26_2 h26_3 hm; exact absurd hm (Nat.not_lt_zero _)
      | succ nn ih26 =>
        intro x1 x2 G1 h26_0 h26_1 h26_2 h26_3 hm26
        refine zs_iload_n (pc := 26) C dX9_fits_26 rfl ?_
        refine zs_aload_n (pc := 27) C dX9_fits_27 rfl ?_
        refine zs_geti (r := 1015) (pc := 28) C dX9_fits_28 w_X9_267 f_10_15 rfl (r_1015 0) (fun v28 e28 l28 u28 => ?_)
        have y28 : v28 = A 4 3 := e28.trans (by rw [h26_2.1 1015 (by decide)]; exact k15)
        subst y28
        refine zs_icmp_ge (tgt := 60) (pc := 31) C dX9_fits_31 (by decide) (fun h31 => ?_) (fun h31 => ?_)
        · skip
          refine zs_iload_n (pc := 60) C dX9_fits_60 rfl ?_
          exact zs_iret (pc := 61) C hr hlk dX9_fits_61 ⟨by repeat (first | exact zsm_rf | assumption | refine zsm_C (by decide) ?_ | refine zsm_I (by decide) ?_ | refine zsm_J ?_ | refine zsm_c (by assumption) (by decide) ?_), ⟨(by have e : x2 = A 4 3 := (by omega); rw [h26_1, e]; unfold wFB wF0; omega), h26_3⟩⟩
        · skip
          have hs := wBi_f (A := A) (W := W) (k := x2) (by omega)
          have hb := bor_2 (M := A 4 3) (k := x2) (B := wF0 A W) (y := wBi (fun j => wFI A W (4 + (j : Int))) x2.toNat) (by omega) (by omega) wF0_in (by have q := wBi_in (P := (fun j => wFI A W (4 + (j : Int)))) x2.toNat (by omega); omega)
          refine zs_iload_n (pc := 34) C dX9_fits_34 rfl ?_
          refine zs_aload_n (pc := 35) C dX9_fits_35 rfl ?_
          refine zs_iconst (pc := 36) C dX9_fits_36 (by decide) ?_
          refine zs_iload_n (pc := 37) C dX9_fits_37 rfl ?_
          first | refine zs_iadd (pc := 38) C dX9_fits_38 (by omega) ?_ | refine zs_iaddF (pc := 38) C dX9_fits_38 (fun z38 hz381 hz382 => ?_)
          refine zVi1 (pc := 39) C dX9_fits_39 v_X9_544 (c_X9_isFitW (A := A) (W := W) hX (rW_sm h26_2 (by decide) hR) (kR_sm h26_2 (by decide) hK) hW hT (rS_sm h26_2 (by decide) hS) (by omega)) (by decide) (by decide) ⟨Nat.zero_le _, Nat.zero_le _⟩ (Nat.le_of_ble_eq_true rfl) (fun x39 G39 l39 u39 hp39 => ?_)
          obtain ⟨hz39, hq39⟩ := hp39
          have hj39 := hq39.2.2
          refine zs_if_eq (tgt := 51) (pc := 42) C dX9_fits_42 (by decide) (fun h42 => ?_) (fun h42 => ?_)
          · skip
            rw [if_neg (fun q => by have := hq39.2.1.mpr (wFI_1.mp q); omega)] at hs
            refine zs_iconst (pc := 51) C dX9_fits_51 (by decide) ?_
            refine zs_iorX (pc := 52) C dX9_fits_52 (fun z52 ez52 hz521 hz522 => ?_)
            have hz52 : z52 = wF0 A W + wBi (fun j => wFI A W (4 + (j : Int))) (x2 + 1).toNat := by first | (rw [ez52, ez47, h26_1, hb.1, hs]; omega) | (rw [ez52, h26_1, hb.2, hs]; omega)
            refine zs_istore_n (pc := 53) C dX9_fits_53 (by decide) ?_
            dsimp only [zset, zclr, znone]
            first | refine zs_iinc (pc := 54) C dX9_fits_54 rfl (by decide) (by omega) ?_ | refine zs_iincF (pc := 54) C dX9_fits_54 rfl (by decide) (fun z54 hz541 hz542 => ?_)
            dsimp only [zset, zclr, znone]
            refine zs_goto (tgt := 26) (pc := 57) C dX9_fits_57 (by decide) ?_
            exact zs_wk (ih26 _ _ _ (by omega) hz52 (by repeat (first | exact zsm_rf | assumption | refine zsm_C (by decide) ?_ | refine zsm_I (by decide) ?_ | refine zsm_J ?_ | refine zsm_c (by assumption) (by decide) ?_)) (by repeat (first | exact zsj_rf | assumption | refine zsj_I ?_ | refine zsj_J (by decide) ?_ | refine zsj_e (by assumption) ?_ | refine zsj_c (by assumption) (by decide) ?_)) (by first | omega | (simp only [zuI_1, zuI_2, zuJ_1, zuJ_2, zuJ_3, zuP_1, zuP_2, zuP_3, zuC_1, zuC_2, reduceIte, Nat.reduceEqDiff, false_and, and_false, true_and, and_true, and_self, or_true, true_or, or_false, false_or]; omega))) (zwk_s rfl (zwk_s rfl (zwk_s rfl zwk_0)))
          · skip
            rw [if_pos (wFI_1.mpr (hq39.2.1.mp (by omega)))] at hs
            refine zs_iconst (pc := 45) C dX9_fits_45 (by decide) ?_
            refine zs_iload_n (pc := 46) C dX9_fits_46 rfl ?_
            refine zs_ishlX (pc := 47) C dX9_fits_47 (fun z47 ez47 hz471 hz472 => ?_)
            refine zs_goto (tgt := 52) (pc := 48) C dX9_fits_48 (by decide) ?_
            refine zs_iorX (pc := 52) C dX9_fits_52 (fun z52 ez52 hz521 hz522 => ?_)
            have hz52 : z52 = wF0 A W + wBi (fun j => wFI A W (4 + (j : Int))) (x2 + 1).toNat := by first | (rw [ez52, ez47, h26_1, hb.1, hs]; omega) | (rw [ez52, h26_1, hb.2, hs]; omega)
            refine zs_istore_n (pc := 53) C dX9_fits_53 (by decide) ?_
            dsimp only [zset, zclr, znone]
            first | refine zs_iinc (pc := 54) C dX9_fits_54 rfl (by decide) (by omega) ?_ | refine zs_iincF (pc := 54) C dX9_fits_54 rfl (by decide) (fun z54 hz541 hz542 => ?_)
            dsimp only [zset, zclr, znone]
            refine zs_goto (tgt := 26) (pc := 57) C dX9_fits_57 (by decide) ?_
            exact zs_wk (ih26 _ _ _ (by omega) hz52 (by repeat (first | exact zsm_rf | assumption | refine zsm_C (by decide) ?_ | refine zsm_I (by decide) ?_ | refine zsm_J ?_ | refine zsm_c (by assumption) (by decide) ?_)) (by repeat (first | exact zsj_rf | assumption | refine zsj_I ?_ | refine zsj_J (by decide) ?_ | refine zsj_e (by assumption) ?_ | refine zsj_c (by assumption) (by decide) ?_)) (by first | omega | (simp only [zuI_1, zuI_2, zuJ_1, zuJ_2, zuJ_3, zuP_1, zuP_2, zuP_3, zuC_1, zuC_2, reduceIte, Nat.reduceEqDiff, false_and, and_false, true_and, and_true, and_self, or_true, true_or, or_false, false_or]; omega))) (zwk_s rfl (zwk_s rfl (zwk_s rfl zwk_0)))
    exact zs_wk (L26 _ _ _ _ (by omega) (by rw [hvb]; exact (Int.add_zero _).symm) (by repeat (first | exact zsm_rf | assumption | refine zsm_C (by decide) ?_ | refine zsm_I (by decide) ?_ | refine zsm_J ?_ | refine zsm_c (by assumption) (by decide) ?_)) (by repeat (first | exact zsj_rf | assumption | refine zsj_I ?_ | refine zsj_J (by decide) ?_ | refine zsj_e (by assumption) ?_ | refine zsj_c (by assumption) (by decide) ?_)) (Nat.lt_succ_self _)) (zwk_s rfl (zwk_s rfl (zwk_s rfl zwk_0)))
  refine zs_if_eq (tgt := 22) (pc := 10) C dX9_fits_10 (by decide) (fun h10 => ?_) (fun h10 => ?_)
  · skip
    refine zs_iconst (pc := 22) C dX9_fits_22 (by decide) ?_
    exact zs_wk (J23 _ (by unfold wF0; first | (rw [ez18, if_pos (wFI_1.mpr (hq7.2.1.mp (by omega))), bsh_i (by omega)]; done) | (rw [if_neg (fun q => by have := hq7.2.1.mpr (wFI_1.mp q); omega)]; done))) (zwk_s rfl (zwk_n (zwk_n zwk_0)))
  · skip
    refine zs_iconst (pc := 13) C dX9_fits_13 (by decide) ?_
    refine zs_aload_n (pc := 14) C dX9_fits_14 rfl ?_
    refine zs_geti (r := 1015) (pc := 15) C dX9_fits_15 w_X9_267 f_10_15 rfl (r_1015 0) (fun v15 e15 l15 u15 => ?_)
    have y15 : v15 = A 4 3 := e15.trans (by rw [hz7.1 1015 (by decide)]; first | exact k15 | (simp only [zuI_1, zuI_2, zuJ_1, zuJ_2, zuJ_3, zuP_1, zuP_2, zuP_3, zuC_1, zuC_2, reduceIte, Nat.reduceEqDiff, false_and, and_false, true_and, and_true, and_self, or_true, true_or, or_false, false_or]; exact k15))
    subst y15
    refine zs_ishlX (pc := 18) C dX9_fits_18 (fun z18 ez18 hz181 hz182 => ?_)
    refine zs_goto (tgt := 23) (pc := 19) C dX9_fits_19 (by decide) ?_
    exact zs_wk (J23 _ (by unfold wF0; first | (rw [ez18, if_pos (wFI_1.mpr (hq7.2.1.mp (by omega))), bsh_i (by omega)]; done) | (rw [if_neg (fun q => by have := hq7.2.1.mpr (wFI_1.mp q); omega)]; done))) (zwk_s rfl (zwk_n (zwk_n zwk_0)))
end
