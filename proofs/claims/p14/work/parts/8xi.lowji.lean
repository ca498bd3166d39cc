set_option maxHeartbeats 4000000 in
set_option maxRecDepth 100000 in
theorem c_X9_cakeLineY {l : Launch} {Γ : zΓ} {G : zH} {w : Nat} {b : Nat → Int} {n : Int} {A : aS}  (hX : zXs Γ) (hR : gR b n Γ w A G) (hk0 : tK b n A ≠ 0) : zMet l Γ yX9_cakeLine cX9_cakeLine 2 (some .boolean) 3 [zr 10 w] G (zpi (fun x G' => zsm [1007, 1008, 1009, 1010, 1004, 1005, 1011, 2066, 2067, 2068, 2069, 1019] G G' ∧ LJr G G' ∧ ((x = 0 ∨ x = 1) ∧ (x = 1 → gR b n Γ w (sCake b n A) G' ∧ G.1 1010 w 0 < G'.1 1010 w 0) ∧ (x = 0 → FT w (sCake b n A) G')))) := by
  have mc := mst_c
  obtain ⟨hG, hF, hD⟩ := hR
  have hc9 := hD.2.2.1
  have c1 := hc9.1
  have c2 := hc9.2.1
  have h0 := hF.1
  have g10 := hG.2.2.2.2.1
  refine zMet_of RX9 hX (by decide) rfl (Nat.le_of_ble_eq_true rfl) ?_
  intro p e s m args below meth c C hr hlk
  show Z p l e (zrm 3) s m args below meth c Γ 2 0 0 (MQ below (zQc Γ (zpi (fun x G' => zsm [1007, 1008, 1009, 1010, 1004, 1005, 1011, 2066, 2067, 2068, 2069, 1019] G G' ∧ LJr G G' ∧ ((x = 0 ∨ x = 1) ∧ (x = 1 → gR b n Γ w (sCake b n A) G' ∧ G.1 1010 w 0 < G'.1 1010 w 0) ∧ (x = 0 → FT w (sCake b n A) G'))))) args s 0 0 (zA Γ)) 0 [some (zr 10 w), none] [] G
  refine zs_aload_n (pc := 0) C dX9_cakeLine_0 rfl ?_
  refine zs_geti (r := 1019) (pc := 1) C dX9_cakeLine_1 w_X9_246 f_10_19 rfl (r_1019 0) (fun v1 e1 l1 u1 => ?_)
  refine zs_iconst (pc := 4) C dX9_cakeLine_4 (by decide) ?_
  refine zs_icmp_ne (tgt := 14) (pc := 5) C dX9_cakeLine_5 (by decide) (fun h5 => ?_) (fun h5 => ?_)
  · skip
    refine zs_aload_n (pc := 14) C dX9_cakeLine_14 rfl ?_
    refine zVv0 (pc := 15) C dX9_cakeLine_15 v_X9_230 (c_X9_tokenGY hX (by repeat (first | assumption | decide | apply gT_I | apply gT_sm))) (by decide) (by decide) ⟨Nat.zero_le _, Nat.zero_le _⟩ (Nat.le_of_ble_eq_true rfl) (fun G15 hp15 => ?_)
    obtain ⟨hz15, lo15, hq15⟩ := hp15
    have tr15_1019 := zsm_at hz15 1019 w 0 (by decide)
    try simp only [zuI_1, zuI_2, zuJ_1, zuJ_2, zuJ_3, zuP_1, zuP_2, zuP_3, zuC_1, zuC_2, reduceIte, Nat.reduceEqDiff, false_and, and_false, true_and, and_true, and_self, or_true, true_or, or_false, false_or] at tr15_1019
    refine zs_iconst (pc := 18) C dX9_cakeLine_18 (by decide) ?_
    refine zs_aload_n (pc := 19) C dX9_cakeLine_19 rfl ?_
    refine zs_geti (r := 1019) (pc := 20) C dX9_cakeLine_20 w_X9_246 f_10_19 rfl (r_1019 0) (fun v20 e20 l20 u20 => ?_)
    first | refine zs_iadd (pc := 23) C dX9_cakeLine_23 (by omega) ?_ | refine zs_iaddF (pc := 23) C dX9_cakeLine_23 (fun z23 hz231 hz232 => ?_)
    refine zs_istore_n (pc := 24) C dX9_cakeLine_24 (by decide) ?_
    dsimp only [zset, zclr, znone]
    refine zs_aload_n (pc := 25) C dX9_cakeLine_25 rfl ?_
    refine zs_aload_n (pc := 26) C dX9_cakeLine_26 rfl ?_
    refine zs_getf (pc := 27) C dX9_cakeLine_27 w_X9_42 f_10_29 (by decide) ?_
    refine zs_iconst (pc := 30) C dX9_cakeLine_30 (by decide) ?_
    refine zs_aload_n (pc := 31) C dX9_cakeLine_31 rfl ?_
    refine zs_geti (r := 1019) (pc := 32) C dX9_cakeLine_32 w_X9_246 f_10_19 rfl (r_1019 0) (fun v32 e32 l32 u32 => ?_)
    have hn9 : ¬ mst 2 ≤ A 4 (2 : Int).toNat := by rw [mc.2.2.1]; show ¬ (5 : Int) ≤ A 4 2; omega
    have hfd : fndn (G15.1 2066 (Γ.2.1 w 29)) 5 (tV b n (sNext b n A)) v32.toNat 0 = sFind 2 (tV b n (sNext b n A)) (sNext b n A) := by
      unfold sFind
      rw [sNext_f (by decide), show A 4 (2 : Int).toNat = v32 from (by show A 4 2 = v32; omega)]
      refine fnd_nm (p := 5) (q := 10) rfl rfl (fun j hj => ?_)
      rw [hz15.1 2066 (by decide), sNext_f (by decide)]
      exact (hc9.2.2.2 j (by omega)).1
    refine zVi3 (pc := 35) C dX9_cakeLine_35 v_X9_284 (c_X9_newName66Y hX hq15 (by omega) (by omega)) (by decide) (by decide) ⟨Nat.zero_le _, Nat.zero_le _⟩ (Nat.le_of_ble_eq_true rfl) (fun x35 G35 l35 u35 hp35 => ?_)
    obtain ⟨hz35, lo35, hq35⟩ := hp35
    have tr35_1019 := zsm_at hz35 1019 w 0 (by decide)
    try simp only [zuI_1, zuI_2, zuJ_1, zuJ_2, zuJ_3, zuP_1, zuP_2, zuP_3, zuC_1, zuC_2, reduceIte, Nat.reduceEqDiff, false_and, and_false, true_and, and_true, and_self, or_true, true_or, or_false, false_or] at tr35_1019
    refine zs_if_eq (tgt := 52) (pc := 38) C dX9_cakeLine_38 (by decide) (fun h38 => ?_) (fun h38 => ?_)
    · skip
      refine zs_iconst (pc := 52) C dX9_cakeLine_52 (by decide) ?_
      exact zs_zret (pc := 53) C hr hlk dX9_cakeLine_53 (by omega) ⟨by repeat (first | exact zsm_rf | assumption | refine zsm_C (by decide) ?_ | refine zsm_I (by decide) ?_ | refine zsm_J ?_ | refine zsm_c (by assumption) (by decide) ?_), (by with_reducible repeat (first | exact LJr_rf | assumption | refine LJr_I (h := 0) (by decide) (Nat.zero_le _) ?_ | refine LJr_I (h := 3) (by decide) (by omega) ?_ | refine LJr_I (h := 4) (by decide) (by omega) ?_ | refine LJr_I (h := 5) (by decide) (by omega) ?_ | refine LJr_I (h := 7) (by decide) (by omega) ?_ | refine LJr_I (h := 20) (by decide) (by omega) ?_ | refine LJr_I (h := 64) (by decide) (by omega) ?_ | refine LJr_c (by assumption) ?_)), ⟨by omega, fun q => by omega, fun _ => (by first | (have hFN := hq46.2.1 (by omega); rw [sCake_1 hFN.1]; exact hFN) | (have hFN := sNew_F h0 hn9 hfd (hq35.2.1 (by omega)); rw [sCake_0 hFN.1]; exact hFN))⟩⟩
    · skip
      have hk9 := hq35.2.2 (by omega)
      have hso := sNew_ok (b := b) (n := n) (kd := 2) (A := A) hn9 hk9.1 (by rw [← hfd]; exact hk9.2.1)
      have he := hso.1
      have hgn := sNew_T he hk9.2.2.2.1
      have hn1 : (sNew b n 2 A) 1 0 = 0 := by rw [sNew_1f (by decide) (by decide) (by decide) he]; exact h0
      refine zs_aload_n (pc := 41) C dX9_cakeLine_41 rfl ?_
      refine zs_iconst (pc := 42) C dX9_cakeLine_42 (by decide) ?_
      refine zs_sipush (pc := 43) C dX9_cakeLine_43 (by decide) (by decide) ?_
      refine zVi2 (pc := 46) C dX9_cakeLine_46 v_X9_236 (c_X9_numberY hX hgn hn1 (by decide)) (by decide) (by decide) ⟨Nat.zero_le _, Nat.zero_le _⟩ (Nat.le_of_ble_eq_true rfl) (fun x46 G46 l46 u46 hp46 => ?_)
      obtain ⟨hz46, lo46, hq46⟩ := hp46
      have tr46_1019 := zsm_at hz46 1019 w 0 (by decide)
      try simp only [zuI_1, zuI_2, zuJ_1, zuJ_2, zuJ_3, zuP_1, zuP_2, zuP_3, zuC_1, zuC_2, reduceIte, Nat.reduceEqDiff, false_and, and_false, true_and, and_true, and_self, or_true, true_or, or_false, false_or] at tr46_1019
      refine zs_if_ne (tgt := 54) (pc := 49) C dX9_cakeLine_49 (by decide) (fun h49 => ?_) (fun h49 => ?_)
      · skip
        have k46 := hq46.2.2 (by omega)
        have o46 := sNum_ok (b := b) (n := n) (lo := 0) (hi := 999) (A := sNew b n 2 A) hn1 k46.1 (by omega)
        have g46 : gT b n Γ w (sC1 b n A) G46 := by rw [show sC1 b n A = sNext b n (sNew b n 2 A) from o46.1]; exact k46.2.2.2.2.1
        have z46 : (sC1 b n A) 1 0 = 0 := by rw [show sC1 b n A = sNext b n (sNew b n 2 A) from o46.1, sNext_f (by decide)]; exact hn1
        refine zs_aload_n (pc := 54) C dX9_cakeLine_54 rfl ?_
        refine zs_getf (pc := 55) C dX9_cakeLine_55 w_X9_45 f_10_30 (by decide) ?_
        refine zs_iload_n (pc := 58) C dX9_cakeLine_58 rfl ?_
        refine zs_aload_n (pc := 59) C dX9_cakeLine_59 rfl ?_
        refine zs_geti (r := 1011) (pc := 60) C dX9_cakeLine_60 w_X9_227 f_10_11 rfl (r_1011 0) (fun v60 e60 l60 u60 => ?_)
        refine zs_iast (r := 2067) (pc := 63) C dX9_cakeLine_63 a_67 (by decide) (by omega) rfl (r_2067 _) (by omega) ?_
        refine zs_aload_n (pc := 64) C dX9_cakeLine_64 rfl ?_
        refine zs_iconst (pc := 65) C dX9_cakeLine_65 (by decide) ?_
        refine zs_bipush (pc := 66) C dX9_cakeLine_66 (by decide) (by decide) ?_
        refine zVi2 (pc := 68) C dX9_cakeLine_68 v_X9_236 (c_X9_numberY hX (by repeat (first | assumption | decide | apply gT_I | apply gT_sm)) z46 (by decide)) (by decide) (by decide) ⟨Nat.zero_le _, Nat.zero_le _⟩ (Nat.le_of_ble_eq_true rfl) (fun x68 G68 l68 u68 hp68 => ?_)
        obtain ⟨hz68, lo68, hq68⟩ := hp68
        try simp only [zuI_1, zuI_2, zuJ_1, zuJ_2, zuJ_3, zuP_1, zuP_2, zuP_3, zuC_1, zuC_2, reduceIte, Nat.reduceEqDiff, false_and, and_false, true_and, and_true, and_self, or_true, true_or, or_false, false_or] at hq68
        have tr68_1019 := zsm_at hz68 1019 w 0 (by decide)
        try simp only [zuI_1, zuI_2, zuJ_1, zuJ_2, zuJ_3, zuP_1, zuP_2, zuP_3, zuC_1, zuC_2, reduceIte, Nat.reduceEqDiff, false_and, and_false, true_and, and_true, and_self, or_true, true_or, or_false, false_or] at tr68_1019
        refine zs_if_ne (tgt := 76) (pc := 71) C dX9_cakeLine_71 (by decide) (fun h71 => ?_) (fun h71 => ?_)
        · skip
          have k68 := hq68.2.2 (by omega)
          have o68 := sNum_ok (b := b) (n := n) (lo := 1) (hi := 99) (A := sC1 b n A) z46 k68.1 (by omega)
          have g68 : gT b n Γ w (sC2 b n A) G68 := by rw [show sC2 b n A = sNext b n (sC1 b n A) from o68.1]; exact k68.2.2.2.2.1
          have z68 : (sC2 b n A) 1 0 = 0 := by rw [show sC2 b n A = sNext b n (sC1 b n A) from o68.1, sNext_f (by decide)]; exact z46
          refine zs_aload_n (pc := 76) C dX9_cakeLine_76 rfl ?_
          refine zs_getf (pc := 77) C dX9_cakeLine_77 w_X9_48 f_10_31 (by decide) ?_
          refine zs_iload_n (pc := 80) C dX9_cakeLine_80 rfl ?_
          refine zs_aload_n (pc := 81) C dX9_cakeLine_81 rfl ?_
          refine zs_geti (r := 1011) (pc := 82) C dX9_cakeLine_82 w_X9_227 f_10_11 rfl (r_1011 0) (fun v82 e82 l82 u82 => ?_)
          refine zs_iast (r := 2068) (pc := 85) C dX9_cakeLine_85 a_68 (by decide) (by omega) rfl (r_2068 _) (by omega) ?_
          refine zs_aload_n (pc := 86) C dX9_cakeLine_86 rfl ?_
          refine zs_iconst (pc := 87) C dX9_cakeLine_87 (by decide) ?_
          refine zs_bipush (pc := 88) C dX9_cakeLine_88 (by decide) (by decide) ?_
          refine zVi2 (pc := 90) C dX9_cakeLine_90 v_X9_236 (c_X9_numberY hX (by repeat (first | assumption | decide | apply gT_I | apply gT_sm)) z68 (by decide)) (by decide) (by decide) ⟨Nat.zero_le _, Nat.zero_le _⟩ (Nat.le_of_ble_eq_true rfl) (fun x90 G90 l90 u90 hp90 => ?_)
          obtain ⟨hz90, lo90, hq90⟩ := hp90
          try simp only [zuI_1, zuI_2, zuJ_1, zuJ_2, zuJ_3, zuP_1, zuP_2, zuP_3, zuC_1, zuC_2, reduceIte, Nat.reduceEqDiff, false_and, and_false, true_and, and_true, and_self, or_true, true_or, or_false, false_or] at hq90
          have tr90_1019 := zsm_at hz90 1019 w 0 (by decide)
          try simp only [zuI_1, zuI_2, zuJ_1, zuJ_2, zuJ_3, zuP_1, zuP_2, zuP_3, zuC_1, zuC_2, reduceIte, Nat.reduceEqDiff, false_and, and_false, true_and, and_true, and_self, or_true, true_or, or_false, false_or] at tr90_1019
          refine zs_if_ne (tgt := 98) (pc := 93) C dX9_cakeLine_93 (by decide) (fun h93 => ?_) (fun h93 => ?_)
          · skip
            have k90 := hq90.2.2 (by omega)
            have o90 := sNum_ok (b := b) (n := n) (lo := 0) (hi := 99) (A := sC2 b n A) z68 k90.1 (by omega)
            have g90 : gT b n Γ w (sC3 b n A) G90 := by rw [show sC3 b n A = sNext b n (sC2 b n A) from o90.1]; exact k90.2.2.2.2.1
            have z90 : (sC3 b n A) 1 0 = 0 := by rw [show sC3 b n A = sNext b n (sC2 b n A) from o90.1, sNext_f (by decide)]; exact z68
            refine zs_aload_n (pc := 98) C dX9_cakeLine_98 rfl ?_
            refine zs_getf (pc := 99) C dX9_cakeLine_99 w_X9_51 f_10_32 (by decide) ?_
            refine zs_iload_n (pc := 102) C dX9_cakeLine_102 rfl ?_
            refine zs_aload_n (pc := 103) C dX9_cakeLine_103 rfl ?_
            refine zs_geti (r := 1011) (pc := 104) C dX9_cakeLine_104 w_X9_227 f_10_11 rfl (r_1011 0) (fun v104 e104 l104 u104 => ?_)
            refine zs_iast (r := 2069) (pc := 107) C dX9_cakeLine_107 a_69 (by decide) (by omega) rfl (r_2069 _) (by omega) ?_
            refine zs_aload_n (pc := 108) C dX9_cakeLine_108 rfl ?_
            refine zs_dupa (pc := 109) C dX9_cakeLine_109 ?_
            refine zs_geti (r := 1019) (pc := 110) C dX9_cakeLine_110 w_X9_246 f_10_19 rfl (r_1019 0) (fun v110 e110 l110 u110 => ?_)
            try simp only [zuI_1, zuI_2, zuJ_1, zuJ_2, zuJ_3, zuP_1, zuP_2, zuP_3, zuC_1, zuC_2, reduceIte, Nat.reduceEqDiff, false_and, and_false, true_and, and_true, and_self, or_true, true_or, or_false, false_or] at e110
            refine zs_iconst (pc := 113) C dX9_cakeLine_113 (by decide) ?_
            first | refine zs_iadd (pc := 114) C dX9_cakeLine_114 (by omega) ?_ | refine zs_iaddF (pc := 114) C dX9_cakeLine_114 (fun z114 hz1141 hz1142 => ?_)
            refine zs_puti (r := 1019) (pc := 115) C dX9_cakeLine_115 w_X9_246 f_10_19 rfl (r_1019 0) (by omega) ?_
            have hi9 : (sNewV b n 2 A).toNat = (A 4 2).toNat := by rw [hso.2]; rfl
            have e3c : sC3 b n A = sNext b n (sNext b n (sNext b n (sNew b n 2 A))) := by rw [show sC3 b n A = sNext b n (sC2 b n A) from o90.1, show sC2 b n A = sNext b n (sC1 b n A) from o68.1, show sC1 b n A = sNext b n (sNew b n 2 A) from o46.1]
            have hSC : sCake b n A = up (up (up (sC3 b n A) 9 (A 4 2).toNat (tV b n (sNew b n 2 A))) 10 (A 4 2).toNat (tV b n (sC1 b n A))) 11 (A 4 2).toNat (tV b n (sC2 b n A)) := by
              unfold sCake
              rw [if_pos z90, hi9, o46.2, o68.2, o90.2]
            have s4 : ∀ j : Nat, (sCake b n A) 4 j = if j = 2 then A 4 2 + 1 else A 4 j := fun j => by rw [hSC]; simp (disch := decide) only [up_f, e3c, sNext_f]; exact (sNew_4f he).1
            have s5 : ∀ j : Nat, (sCake b n A) 5 j = if j = (10 + A 4 2).toNat then tV b n (sNext b n A) else A 5 j := fun j => by rw [hSC]; simp (disch := decide) only [up_f, e3c, sNext_f]; exact (sNew_4f he).2
            have so : ∀ f j : Nat, f ≠ 0 → f ≠ 4 → f ≠ 5 → f ≠ 9 → f ≠ 10 → f ≠ 11 → (sCake b n A) f j = A f j := fun f j q0 q4 q5 q9 q10 q11 => by rw [hSC, up_f q11, up_f q10, up_f q9, e3c, sNext_f q0, sNext_f q0, sNext_f q0, sNew_1f q0 q4 q5 he]
            have w35 := hk9.2.2.1
            have k35 := hk9.2.2.2.2
            have k46b := k46.2.2.2.2.2
            have k68b := k68.2.2.2.2.2
            have k90b := k90.2.2.2.2.2
            have t15a := zsm_at hz15 1004 w 0 (by decide)
            have t15b := zsm_at hz15 1005 w 0 (by decide)
            try simp only [zuI_1, zuI_2, zuJ_1, zuJ_2, zuJ_3, zuP_1, zuP_2, zuP_3, zuC_1, zuC_2, reduceIte, Nat.reduceEqDiff, false_and, and_false, true_and, and_true, and_self, or_true, true_or, or_false, false_or] at k68b
            try simp only [zuI_1, zuI_2, zuJ_1, zuJ_2, zuJ_3, zuP_1, zuP_2, zuP_3, zuC_1, zuC_2, reduceIte, Nat.reduceEqDiff, false_and, and_false, true_and, and_true, and_self, or_true, true_or, or_false, false_or] at k90b
            have f46 := k46.2.2.2.1
            have f68 := k68.2.2.2.1
            have f90 := k90.2.2.2.1
            have a1 := gT_adv hG hq15 (by omega)
            have a2 : G15.1 1010 w 0 ≤ G35.1 1010 w 0 := gT_mono hq15 hk9.2.2.2.1
            have a3 : G35.1 1010 w 0 ≤ G46.1 1010 w 0 := gT_mono hgn k46.2.2.2.2.1
            have a4 : G46.1 1010 w 0 ≤ G68.1 1010 w 0 := gT_mono g46 k68.2.2.2.2.1
            have a5 : G68.1 1010 w 0 ≤ G90.1 1010 w 0 := gT_mono g68 k90.2.2.2.2.1
            refine zs_heap (P := fun G9 => zsm [1007, 1008, 1009, 1010, 1004, 1005, 1011, 2066, 2067, 2068, 2069, 1019] G G9 ∧ LJr G G9 ∧ gR b n Γ w (sCake b n A) G9 ∧ G.1 1010 w 0 < G9.1 1010 w 0) ⟨(by repeat (first | exact zsm_rf | assumption | refine zsm_C (by decide) ?_ | refine zsm_I (by decide) ?_ | refine zsm_J ?_ | refine zsm_c (by assumption) (by decide) ?_)), (by with_reducible repeat (first | exact LJr_rf | assumption | refine LJr_I (h := 0) (by decide) (Nat.zero_le _) ?_ | refine LJr_I (h := 3) (by decide) (by omega) ?_ | refine LJr_I (h := 4) (by decide) (by omega) ?_ | refine LJr_I (h := 5) (by decide) (by omega) ?_ | refine LJr_I (h := 7) (by decide) (by omega) ?_ | refine LJr_I (h := 20) (by decide) (by omega) ?_ | refine LJr_I (h := 64) (by decide) (by omega) ?_ | refine LJr_c (by assumption) ?_)), ?_, ?_⟩ (fun G9 hG9 => ?_)
            · refine gR_cake (f1 := tV b n (sNew b n 2 A)) (f2 := tV b n (sC1 b n A)) (f3 := tV b n (sC2 b n A)) (by repeat (first | exact zsm_rf | assumption | refine zsm_C (by decide) ?_ | refine zsm_I (by decide) ?_ | refine zsm_J ?_ | refine zsm_c (by assumption) (by decide) ?_)) ⟨hG, hF, hD⟩ (gT_A (A := sC3 b n A) (by rw [hSC]; simp (disch := decide) only [up_f]) (by repeat (first | assumption | decide | apply gT_I | apply gT_sm))) (by omega) s4 s5 (fun j => by rw [hSC]; simp (disch := decide) only [up_f, up_at, e3c, sNext_f]; rw [sNew_1f (by decide) (by decide) (by decide) he]) (fun j => by rw [hSC]; simp (disch := decide) only [up_f, up_at, e3c, sNext_f]; rw [sNew_1f (by decide) (by decide) (by decide) he]) (fun j => by rw [hSC]; simp (disch := decide) only [up_f, up_at, e3c, sNext_f]; rw [sNew_1f (by decide) (by decide) (by decide) he]) so (by first | omega | (simp only [zuI_1, zuI_2, zuJ_1, zuJ_2, zuJ_3, zuP_1, zuP_2, zuP_3, zuC_1, zuC_2, reduceIte, Nat.reduceEqDiff, false_and, and_false, true_and, and_true, and_self, or_true, true_or, or_false, false_or] <;> omega)) (by first | omega | (simp only [zuI_1, zuI_2, zuJ_1, zuJ_2, zuJ_3, zuP_1, zuP_2, zuP_3, zuC_1, zuC_2, reduceIte, Nat.reduceEqDiff, false_and, and_false, true_and, and_true, and_self, or_true, true_or, or_false, false_or] <;> omega)) (by first | omega | (simp only [zuI_1, zuI_2, zuJ_1, zuJ_2, zuJ_3, zuP_1, zuP_2, zuP_3, zuC_1, zuC_2, reduceIte, Nat.reduceEqDiff, false_and, and_false, true_and, and_true, and_self, or_true, true_or, or_false, false_or] <;> omega)) (fun j => ?_) (fun j => ?_) (fun j => ?_) (fun j => ?_)
              · simp (disch := decide) only [zuI_nf]
                rw [hz90.1 2066 (by decide), zuI_nf (by decide), hz68.1 2066 (by decide), zuI_nf (by decide), hz46.1 2066 (by decide), w35 j, hz15.1 2066 (by decide), show (5 + v32).toNat = (5 + A 4 2).toNat by omega]
              · simp (disch := decide) only [zuI_nf]
                rw [hz90.1 2067 (by decide), zuI_nf (by decide), hz68.1 2067 (by decide)]
                simp only [zuI_1, zuI_2, zuJ_1, zuJ_2, zuJ_3, zuP_1, zuP_2, zuP_3, zuC_1, zuC_2, reduceIte, Nat.reduceEqDiff, false_and, and_false, true_and, and_true, and_self, or_true, true_or, or_false, false_or]
                rw [hz46.1 2067 (by decide), hz35.1 2067 (by decide), hz15.1 2067 (by decide), show (5 + v20).toNat = (5 + A 4 2).toNat by omega, show v60 = tV b n (sNew b n 2 A) by omega]
              · simp (disch := decide) only [zuI_nf]
                rw [hz90.1 2068 (by decide)]
                simp only [zuI_1, zuI_2, zuJ_1, zuJ_2, zuJ_3, zuP_1, zuP_2, zuP_3, zuC_1, zuC_2, reduceIte, Nat.reduceEqDiff, false_and, and_false, true_and, and_true, and_self, or_true, true_or, or_false, false_or]
                rw [hz68.1 2068 (by decide), zuI_nf (by decide), hz46.1 2068 (by decide), hz35.1 2068 (by decide), hz15.1 2068 (by decide), show (5 + v20).toNat = (5 + A 4 2).toNat by omega, show v82 = tV b n (sC1 b n A) by omega]
              · simp (disch := decide) only [zuI_nf]
                simp only [zuI_1, zuI_2, zuJ_1, zuJ_2, zuJ_3, zuP_1, zuP_2, zuP_3, zuC_1, zuC_2, reduceIte, Nat.reduceEqDiff, false_and, and_false, true_and, and_true, and_self, or_true, true_or, or_false, false_or]
                rw [hz90.1 2069 (by decide), zuI_nf (by decide), hz68.1 2069 (by decide), zuI_nf (by decide), hz46.1 2069 (by decide), hz35.1 2069 (by decide), hz15.1 2069 (by decide), show (5 + v20).toNat = (5 + A 4 2).toNat by omega, show v104 = tV b n (sC2 b n A) by omega]
            · first | omega | (simp only [zuI_1, zuI_2, zuJ_1, zuJ_2, zuJ_3, zuP_1, zuP_2, zuP_3, zuC_1, zuC_2, reduceIte, Nat.reduceEqDiff, false_and, and_false, true_and, and_true, and_self, or_true, true_or, or_false, false_or] <;> omega)
            obtain ⟨hh1, lwG9, hh2, hh3⟩ := hG9
            refine zs_iconst (pc := 118) C dX9_cakeLine_118 (by decide) ?_
            exact zs_zret (pc := 119) C hr hlk dX9_cakeLine_119 (by omega) ⟨hh1, (by with_reducible repeat (first | exact LJr_rf | assumption | refine LJr_I (h := 0) (by decide) (Nat.zero_le _) ?_ | refine LJr_I (h := 3) (by decide) (by omega) ?_ | refine LJr_I (h := 4) (by decide) (by omega) ?_ | refine LJr_I (h := 5) (by decide) (by omega) ?_ | refine LJr_I (h := 7) (by decide) (by omega) ?_ | refine LJr_I (h := 20) (by decide) (by omega) ?_ | refine LJr_I (h := 64) (by decide) (by omega) ?_ | refine LJr_c (by assumption) ?_)), ⟨by omega, fun _ => ⟨hh2, hh3⟩, fun q => by omega⟩⟩
          · skip
            refine zs_iconst (pc := 96) C dX9_cakeLine_96 (by decide) ?_
            exact zs_zret (pc := 97) C hr hlk dX9_cakeLine_97 (by omega) ⟨by repeat (first | exact zsm_rf | assumption | refine zsm_C (by decide) ?_ | refine zsm_I (by decide) ?_ | refine zsm_J ?_ | refine zsm_c (by assumption) (by decide) ?_), (by with_reducible repeat (first | exact LJr_rf | assumption | refine LJr_I (h := 0) (by decide) (Nat.zero_le _) ?_ | refine LJr_I (h := 3) (by decide) (by omega) ?_ | refine LJr_I (h := 4) (by decide) (by omega) ?_ | refine LJr_I (h := 5) (by decide) (by omega) ?_ | refine LJr_I (h := 7) (by decide) (by omega) ?_ | refine LJr_I (h := 20) (by decide) (by omega) ?_ | refine LJr_I (h := 64) (by decide) (by omega) ?_ | refine LJr_c (by assumption) ?_)), ⟨by omega, fun q => by omega, fun _ => (by have hFN := hq90.2.1 (by omega); rw [sCake_3 hFN.1]; exact hFN)⟩⟩
        · skip
          refine zs_iconst (pc := 74) C dX9_cakeLine_74 (by decide) ?_
          exact zs_zret (pc := 75) C hr hlk dX9_cakeLine_75 (by omega) ⟨by repeat (first | exact zsm_rf | assumption | refine zsm_C (by decide) ?_ | refine zsm_I (by decide) ?_ | refine zsm_J ?_ | refine zsm_c (by assumption) (by decide) ?_), (by with_reducible repeat (first | exact LJr_rf | assumption | refine LJr_I (h := 0) (by decide) (Nat.zero_le _) ?_ | refine LJr_I (h := 3) (by decide) (by omega) ?_ | refine LJr_I (h := 4) (by decide) (by omega) ?_ | refine LJr_I (h := 5) (by decide) (by omega) ?_ | refine LJr_I (h := 7) (by decide) (by omega) ?_ | refine LJr_I (h := 20) (by decide) (by omega) ?_ | refine LJr_I (h := 64) (by decide) (by omega) ?_ | refine LJr_c (by assumption) ?_)), ⟨by omega, fun q => by omega, fun _ => (by have hFN := hq68.2.1 (by omega); rw [sCake_2 hFN.1]; exact hFN)⟩⟩
      · skip
        refine zs_iconst (pc := 52) C dX9_cakeLine_52 (by decide) ?_
        exact zs_zret (pc := 53) C hr hlk dX9_cakeLine_53 (by omega) ⟨by repeat (first | exact zsm_rf | assumption | refine zsm_C (by decide) ?_ | refine zsm_I (by decide) ?_ | refine zsm_J ?_ | refine zsm_c (by assumption) (by decide) ?_), (by with_reducible repeat (first | exact LJr_rf | assumption | refine LJr_I (h := 0) (by decide) (Nat.zero_le _) ?_ | refine LJr_I (h := 3) (by decide) (by omega) ?_ | refine LJr_I (h := 4) (by decide) (by omega) ?_ | refine LJr_I (h := 5) (by decide) (by omega) ?_ | refine LJr_I (h := 7) (by decide) (by omega) ?_ | refine LJr_I (h := 20) (by decide) (by omega) ?_ | refine LJr_I (h := 64) (by decide) (by omega) ?_ | refine LJr_c (by assumption) ?_)), ⟨by omega, fun q => by omega, fun _ => (by first | (have hFN := hq46.2.1 (by omega); rw [sCake_1 hFN.1]; exact hFN) | (have hFN := sNew_F h0 hn9 hfd (hq35.2.1 (by omega)); rw [sCake_0 hFN.1]; exact hFN))⟩⟩
  · skip
    refine zs_aload_n (pc := 8) C dX9_cakeLine_8 rfl ?_
    refine zs_iconst (pc := 9) C dX9_cakeLine_9 (by decide) ?_
    refine zVi1 (pc := 10) C dX9_cakeLine_10 v_X9_220 (c_X9_wrongY hX ) (by decide) (by decide) ⟨Nat.zero_le _, Nat.zero_le _⟩ (Nat.le_of_ble_eq_true rfl) (fun x10 G10 l10 u10 hp10 => ?_)
    obtain ⟨hz10, lo10, hq10⟩ := hp10
    have tr10_1019 := zsm_at hz10 1019 w 0 (by decide)
    try simp only [zuI_1, zuI_2, zuJ_1, zuJ_2, zuJ_3, zuP_1, zuP_2, zuP_3, zuC_1, zuC_2, reduceIte, Nat.reduceEqDiff, false_and, and_false, true_and, and_true, and_self, or_true, true_or, or_false, false_or] at tr10_1019
    exact zs_zret (pc := 13) C hr hlk dX9_cakeLine_13 (by omega) ⟨by repeat (first | exact zsm_rf | assumption | refine zsm_C (by decide) ?_ | refine zsm_I (by decide) ?_ | refine zsm_J ?_ | refine zsm_c (by assumption) (by decide) ?_), (by with_reducible repeat (first | exact LJr_rf | assumption | refine LJr_I (h := 0) (by decide) (Nat.zero_le _) ?_ | refine LJr_I (h := 3) (by decide) (by omega) ?_ | refine LJr_I (h := 4) (by decide) (by omega) ?_ | refine LJr_I (h := 5) (by decide) (by omega) ?_ | refine LJr_I (h := 7) (by decide) (by omega) ?_ | refine LJr_I (h := 20) (by decide) (by omega) ?_ | refine LJr_I (h := 64) (by decide) (by omega) ?_ | refine LJr_c (by assumption) ?_)), ⟨by omega, fun q => by omega, fun _ => by rw [sCake_0 (by rw [sNew_full (by rw [mc.2.2.1]; show (5 : Int) ≤ A 4 2; omega)]; exact sFail_f (by decide)), sNew_full (by rw [mc.2.2.1]; show (5 : Int) ≤ A 4 2; omega)]; exact FT_fail h0 (by decide) hq10.2.1 (hq10.2.2.trans g10)⟩⟩
