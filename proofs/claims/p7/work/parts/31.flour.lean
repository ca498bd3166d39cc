set_option maxHeartbeats 4000000 in
set_option maxRecDepth 100000 in
theorem c_X9_grinds {l : Launch} {Γ : zΓ} {G : zH} {w : Nat} {b0 p0 s0 : Int} (hX : zXs Γ) (hM : MI Γ w G)(hb : b0 = 0 ∨ b0 = 1)(hp : 0 ≤ p0 ∧ p0 ≤ 4)(hs : 0 ≤ s0 ∧ s0 ≤ 3)(hg : 0 < G.1 2088 (Γ.2.1 w 58) b0.toNat) (hk : G.1 2087 (Γ.2.1 w 57) b0.toNat ≤ 59) : zMet l Γ yX9_grinds cX9_grinds 9 (some .int) 5 [zr 10 w, zi b0, zi p0, zi s0] G (zpi (fun x G' => zsm [2091, 2092, 2093, 2094, 2095, 2096, 2097, 2098, 2099, 2100, 2088, 2087, 2082, 2084, 2083, 2089, 1050] G G' ∧ True)) := by
  refine zMet_of RX9 hX (by decide) rfl (Nat.le_of_ble_eq_true rfl) ?_
  intro p e s m args below meth c C hr hlk
  show Z p l e (zrm 5) s m args below meth c Γ 9 0 0 (MQ below (zQc Γ (zpi (fun x G' => zsm [2091, 2092, 2093, 2094, 2095, 2096, 2097, 2098, 2099, 2100, 2088, 2087, 2082, 2084, 2083, 2089, 1050] G G' ∧ True))) args s 0 0 (zA Γ)) 0 [some (zr 10 w), some (zi b0), some (zi p0), some (zi s0), none, none, none, none, none] [] G
  refine zs_loc 1 rfl (fun ha1 hb1 => ?_)
  refine zs_loc 2 rfl (fun ha2 hb2 => ?_)
  refine zs_loc 3 rfl (fun ha3 hb3 => ?_)
  refine zs_aload_n (pc := 0) C dX9_grinds_0 rfl ?_
  refine zs_iload_n (pc := 1) C dX9_grinds_1 rfl ?_
  refine zs_iload_n (pc := 2) C dX9_grinds_2 rfl ?_
  refine zs_iload_n (pc := 3) C dX9_grinds_3 rfl ?_
  refine zVi3 (pc := 4) C dX9_grinds_4 v_X9_427 (c_X9_fineOf hX (by repeat (first | assumption | refine MI_I (by decide) ?_ | refine MI_J ?_ | refine MI_sm (by assumption) (by decide) ?_ | refine MI_sn (by assumption) (by decide) ?_)) (by omega) (by omega) (by omega)) (by decide) (by decide) ⟨Nat.zero_le _, Nat.zero_le _⟩ (Nat.le_of_ble_eq_true rfl) (fun x4 G4 l4 u4 hp4 => ?_)
  obtain ⟨hz4, hq4⟩ := hp4
  have t2087_4 := zsm_at hz4 2087 (Γ.2.1 w 57) b0.toNat (by decide)
  have t2088_4 := zsm_at hz4 2088 (Γ.2.1 w 58) b0.toNat (by decide)
  refine zs_istore (pc := 7) C dX9_grinds_7 (by decide) ?_
  dsimp only [zset, zclr, znone]
  refine zs_aload_n (pc := 9) C dX9_grinds_9 rfl ?_
  refine zs_iconst (pc := 10) C dX9_grinds_10 (by decide) ?_
  refine zs_iconst (pc := 11) C dX9_grinds_11 (by decide) ?_
  refine zs_bipush (pc := 12) C dX9_grinds_12 (by decide) (by decide) ?_
  refine zVi3 (pc := 14) C dX9_grinds_14 v_X9_424 (c_X9_boundLaw hX (by repeat (first | assumption | refine MI_I (by decide) ?_ | refine MI_J ?_ | refine MI_sm (by assumption) (by decide) ?_ | refine MI_sn (by assumption) (by decide) ?_)) (by omega)) (by decide) (by decide) ⟨Nat.zero_le _, Nat.zero_le _⟩ (Nat.le_of_ble_eq_true rfl) (fun x14 G14 l14 u14 hp14 => ?_)
  obtain ⟨hz14, hq14⟩ := hp14
  have t2087_14 := zsm_at hz14 2087 (Γ.2.1 w 57) b0.toNat (by decide)
  have t2088_14 := zsm_at hz14 2088 (Γ.2.1 w 58) b0.toNat (by decide)
  refine zs_istore (pc := 17) C dX9_grinds_17 (by decide) ?_
  dsimp only [zset, zclr, znone]
  refine zs_aload_n (pc := 19) C dX9_grinds_19 rfl ?_
  refine zs_iload_n (pc := 20) C dX9_grinds_20 rfl ?_
  refine zs_iload_n (pc := 21) C dX9_grinds_21 rfl ?_
  refine zs_iload_n (pc := 22) C dX9_grinds_22 rfl ?_
  refine zVip3 (pc := 23) C dX9_grinds_23 v_X9_394 (c_X9_leftOf hX (by omega) (by omega) (by omega)) (by decide) (by decide) ⟨Nat.zero_le _, Nat.zero_le _⟩ (Nat.le_of_ble_eq_true rfl) (fun x23 l23 u23 hp23 => ?_)
  have hq23 := hp23
  have J36 : ∀ (x6 : Int), (x6 = 0 ∨ x6 = 1) → Z p l e (zrm 5) s m args below meth c Γ 9 0 0 (MQ below (zQc Γ (zpi (fun x G' => zsm [2091, 2092, 2093, 2094, 2095, 2096, 2097, 2098, 2099, 2100, 2088, 2087, 2082, 2084, 2083, 2089, 1050] G G' ∧ True))) args s 0 0 (zA Γ)) 36 [some (zr 10 w), some (zi b0), some (zi p0), some (zi s0), some (zi x4), some (zi x14), some (zi x6), none, none] [] G14 := by
    intro x6 h36_0
    refine zs_aload_n (pc := 36) C dX9_grinds_36 rfl ?_
    refine zs_getf (pc := 37) C dX9_grinds_37 w_X9_106 f_10_57 (by decide) ?_
    refine zs_iload_n (pc := 40) C dX9_grinds_40 rfl ?_
    refine zs_iald (r := 2087) (pc := 41) C dX9_grinds_41 a_87 (by decide) (by omega) rfl (r_2087 _) (fun v41 e41 l41 u41 => ?_)
    refine zs_istore (pc := 42) C dX9_grinds_42 (by decide) ?_
    dsimp only [zset, zclr, znone]
    refine zs_aload_n (pc := 44) C dX9_grinds_44 rfl ?_
    refine zs_getf (pc := 45) C dX9_grinds_45 w_X9_118 f_10_62 (by decide) ?_
    refine zs_bipush (pc := 48) C dX9_grinds_48 (by decide) (by decide) ?_
    refine zs_iload_n (pc := 50) C dX9_grinds_50 rfl ?_
    first | refine zs_imul (pc := 51) C dX9_grinds_51 (by omega) ?_ | refine zs_imulF (pc := 51) C dX9_grinds_51 (fun z51 hz511 hz512 => ?_)
    refine zs_iload (pc := 52) C dX9_grinds_52 rfl ?_
    first | refine zs_iadd (pc := 54) C dX9_grinds_54 (by omega) ?_ | refine zs_iaddF (pc := 54) C dX9_grinds_54 (fun z54 hz541 hz542 => ?_)
    refine zs_iload_n (pc := 55) C dX9_grinds_55 rfl ?_
    refine zs_iast (r := 2091) (pc := 56) C dX9_grinds_56 a_91 (by decide) (by omega) rfl (r_2091 _) (by omega) ?_
    refine zs_aload_n (pc := 57) C dX9_grinds_57 rfl ?_
    refine zs_getf (pc := 58) C dX9_grinds_58 w_X9_121 f_10_63 (by decide) ?_
    refine zs_bipush (pc := 61) C dX9_grinds_61 (by decide) (by decide) ?_
    refine zs_iload_n (pc := 63) C dX9_grinds_63 rfl ?_
    first | refine zs_imul (pc := 64) C dX9_grinds_64 (by omega) ?_ | refine zs_imulF (pc := 64) C dX9_grinds_64 (fun z64 hz641 hz642 => ?_)
    refine zs_iload (pc := 65) C dX9_grinds_65 rfl ?_
    first | refine zs_iadd (pc := 67) C dX9_grinds_67 (by omega) ?_ | refine zs_iaddF (pc := 67) C dX9_grinds_67 (fun z67 hz671 hz672 => ?_)
    refine zs_iload_n (pc := 68) C dX9_grinds_68 rfl ?_
    refine zs_iast (r := 2092) (pc := 69) C dX9_grinds_69 a_92 (by decide) (by omega) rfl (r_2092 _) (by omega) ?_
    refine zs_aload_n (pc := 70) C dX9_grinds_70 rfl ?_
    refine zs_getf (pc := 71) C dX9_grinds_71 w_X9_124 f_10_64 (by decide) ?_
    refine zs_bipush (pc := 74) C dX9_grinds_74 (by decide) (by decide) ?_
    refine zs_iload_n (pc := 76) C dX9_grinds_76 rfl ?_
    first | refine zs_imul (pc := 77) C dX9_grinds_77 (by omega) ?_ | refine zs_imulF (pc := 77) C dX9_grinds_77 (fun z77 hz771 hz772 => ?_)
    refine zs_iload (pc := 78) C dX9_grinds_78 rfl ?_
    first | refine zs_iadd (pc := 80) C dX9_grinds_80 (by omega) ?_ | refine zs_iaddF (pc := 80) C dX9_grinds_80 (fun z80 hz801 hz802 => ?_)
    refine zs_iload (pc := 81) C dX9_grinds_81 rfl ?_
    refine zs_iast (r := 2093) (pc := 83) C dX9_grinds_83 a_93 (by decide) (by omega) rfl (r_2093 _) (by omega) ?_
    refine zs_aload_n (pc := 84) C dX9_grinds_84 rfl ?_
    refine zs_getf (pc := 85) C dX9_grinds_85 w_X9_127 f_10_65 (by decide) ?_
    refine zs_bipush (pc := 88) C dX9_grinds_88 (by decide) (by decide) ?_
    refine zs_iload_n (pc := 90) C dX9_grinds_90 rfl ?_
    first | refine zs_imul (pc := 91) C dX9_grinds_91 (by omega) ?_ | refine zs_imulF (pc := 91) C dX9_grinds_91 (fun z91 hz911 hz912 => ?_)
    refine zs_iload (pc := 92) C dX9_grinds_92 rfl ?_
    first | refine zs_iadd (pc := 94) C dX9_grinds_94 (by omega) ?_ | refine zs_iaddF (pc := 94) C dX9_grinds_94 (fun z94 hz941 hz942 => ?_)
    refine zs_aload_n (pc := 95) C dX9_grinds_95 rfl ?_
    refine zs_getf (pc := 96) C dX9_grinds_96 w_X9_109 f_10_58 (by decide) ?_
    refine zs_iload_n (pc := 99) C dX9_grinds_99 rfl ?_
    refine zs_iald (r := 2088) (pc := 100) C dX9_grinds_100 a_88 (by decide) (by omega) rfl (r_2088 _) (fun v100 e100 l100 u100 => ?_)
    try simp only [zuI_1, zuI_2, zuJ_1, zuJ_2, zuJ_3, zuP_1, zuP_2, zuP_3, zuC_1, zuC_2, reduceIte, Nat.reduceEqDiff, false_and, and_false, true_and, and_true, and_self, or_true, true_or, or_false, false_or] at e100
    refine zs_aload_n (pc := 101) C dX9_grinds_101 rfl ?_
    refine zs_getf (pc := 102) C dX9_grinds_102 w_X9_20 f_10_22 (by decide) ?_
    refine zs_iconst (pc := 105) C dX9_grinds_105 (by decide) ?_
    refine zs_iald (r := 2059) (pc := 106) C dX9_grinds_106 a_59 (by decide) (by omega) rfl (show zrg 2059 (1 : Int).toNat = (0, 99) from rfl) (fun v106 e106 l106 u106 => ?_)
    try simp only [zuI_1, zuI_2, zuJ_1, zuJ_2, zuJ_3, zuP_1, zuP_2, zuP_3, zuC_1, zuC_2, reduceIte, Nat.reduceEqDiff, false_and, and_false, true_and, and_true, and_self, or_true, true_or, or_false, false_or] at e106
    have J126 : ∀ (G5 : zH), (zsm [2091, 2092, 2093, 2094, 2095, 2096, 2097, 2098, 2099, 2100, 2088, 2087, 2082, 2084, 2083, 2089, 1050] G G5) → (G5.1 2087 (Γ.2.1 w 57) b0.toNat ≤ 59) → Z p l e (zrm 5) s m args below meth c Γ 9 0 0 (MQ below (zQc Γ (zpi (fun x G' => zsm [2091, 2092, 2093, 2094, 2095, 2096, 2097, 2098, 2099, 2100, 2088, 2087, 2082, 2084, 2083, 2089, 1050] G G' ∧ True))) args s 0 0 (zA Γ)) 126 [some (zr 10 w), some (zi b0), some (zi p0), some (zi s0), some (zi x4), some (zi x14), some (zi x6), some (zi v41), none] [] G5 := by
      intro G5 h126_0 h126_1
      refine zs_aload_n (pc := 126) C dX9_grinds_126 rfl ?_
      refine zs_getf (pc := 127) C dX9_grinds_127 w_X9_130 f_10_66 (by decide) ?_
      refine zs_bipush (pc := 130) C dX9_grinds_130 (by decide) (by decide) ?_
      refine zs_iload_n (pc := 132) C dX9_grinds_132 rfl ?_
      first | refine zs_imul (pc := 133) C dX9_grinds_133 (by omega) ?_ | refine zs_imulF (pc := 133) C dX9_grinds_133 (fun z133 hz1331 hz1332 => ?_)
      refine zs_iload (pc := 134) C dX9_grinds_134 rfl ?_
      first | refine zs_iadd (pc := 136) C dX9_grinds_136 (by omega) ?_ | refine zs_iaddF (pc := 136) C dX9_grinds_136 (fun z136 hz1361 hz1362 => ?_)
      refine zs_iload (pc := 137) C dX9_grinds_137 rfl ?_
      have J148 : ∀ (G6 : zH), (zsm [2091, 2092, 2093, 2094, 2095, 2096, 2097, 2098, 2099, 2100, 2088, 2087, 2082, 2084, 2083, 2089, 1050] G G6) → (G6.1 2087 (Γ.2.1 w 57) b0.toNat ≤ 59) → Z p l e (zrm 5) s m args below meth c Γ 9 0 0 (MQ below (zQc Γ (zpi (fun x G' => zsm [2091, 2092, 2093, 2094, 2095, 2096, 2097, 2098, 2099, 2100, 2088, 2087, 2082, 2084, 2083, 2089, 1050] G G' ∧ True))) args s 0 0 (zA Γ)) 148 [some (zr 10 w), some (zi b0), some (zi p0), some (zi s0), some (zi x4), some (zi x14), some (zi x6), some (zi v41), none] [] G6 := by
        intro G6 h148_0 h148_1
        refine zs_iload_n (pc := 148) C dX9_grinds_148 rfl ?_
        have J259 : ∀ (G7 : zH), (zsm [2091, 2092, 2093, 2094, 2095, 2096, 2097, 2098, 2099, 2100, 2088, 2087, 2082, 2084, 2083, 2089, 1050] G G7) → (G7.1 2087 (Γ.2.1 w 57) b0.toNat ≤ 59) → Z p l e (zrm 5) s m args below meth c Γ 9 0 0 (MQ below (zQc Γ (zpi (fun x G' => zsm [2091, 2092, 2093, 2094, 2095, 2096, 2097, 2098, 2099, 2100, 2088, 2087, 2082, 2084, 2083, 2089, 1050] G G' ∧ True))) args s 0 0 (zA Γ)) 259 [some (zr 10 w), some (zi b0), some (zi p0), some (zi s0), some (zi x4), some (zi x14), some (zi x6), some (zi v41), none] [] G7 := by
          intro G7 h259_0 h259_1
          refine zs_aload_n (pc := 259) C dX9_grinds_259 rfl ?_
          refine zs_getf (pc := 260) C dX9_grinds_260 w_X9_109 f_10_58 (by decide) ?_
          refine zs_iload_n (pc := 263) C dX9_grinds_263 rfl ?_
          refine zs_dup2 (pc := 264) C dX9_grinds_264 ?_
          refine zs_iald (r := 2088) (pc := 265) C dX9_grinds_265 a_88 (by decide) (by omega) rfl (r_2088 _) (fun v265 e265 l265 u265 => ?_)
          refine zs_aload_n (pc := 266) C dX9_grinds_266 rfl ?_
          refine zs_getf (pc := 267) C dX9_grinds_267 w_X9_127 f_10_65 (by decide) ?_
          refine zs_bipush (pc := 270) C dX9_grinds_270 (by decide) (by decide) ?_
          refine zs_iload_n (pc := 272) C dX9_grinds_272 rfl ?_
          first | refine zs_imul (pc := 273) C dX9_grinds_273 (by omega) ?_ | refine zs_imulF (pc := 273) C dX9_grinds_273 (fun z273 hz2731 hz2732 => ?_)
          refine zs_iload (pc := 274) C dX9_grinds_274 rfl ?_
          first | refine zs_iadd (pc := 276) C dX9_grinds_276 (by omega) ?_ | refine zs_iaddF (pc := 276) C dX9_grinds_276 (fun z276 hz2761 hz2762 => ?_)
          refine zs_iald (r := 2094) (pc := 277) C dX9_grinds_277 a_94 (by decide) (by omega) rfl (r_2094 _) (fun v277 e277 l277 u277 => ?_)
          first | refine zs_isub (pc := 278) C dX9_grinds_278 (by omega) ?_ | refine zs_isubF (pc := 278) C dX9_grinds_278 (fun z278 hz2781 hz2782 => ?_)
          refine zs_iast (r := 2088) (pc := 279) C dX9_grinds_279 a_88 (by decide) (by omega) rfl (r_2088 _) (by omega) ?_
          refine zs_aload_n (pc := 280) C dX9_grinds_280 rfl ?_
          refine zs_getf (pc := 281) C dX9_grinds_281 w_X9_106 f_10_57 (by decide) ?_
          refine zs_iload_n (pc := 284) C dX9_grinds_284 rfl ?_
          refine zs_dup2 (pc := 285) C dX9_grinds_285 ?_
          refine zs_iald (r := 2087) (pc := 286) C dX9_grinds_286 a_87 (by decide) (by omega) rfl (r_2087 _) (fun v286 e286 l286 u286 => ?_)
          try simp only [zuI_1, zuI_2, zuJ_1, zuJ_2, zuJ_3, zuP_1, zuP_2, zuP_3, zuC_1, zuC_2, reduceIte, Nat.reduceEqDiff, false_and, and_false, true_and, and_true, and_self, or_true, true_or, or_false, false_or] at e286
          refine zs_iconst (pc := 287) C dX9_grinds_287 (by decide) ?_
          first | refine zs_iadd (pc := 288) C dX9_grinds_288 (by omega) ?_ | refine zs_iaddF (pc := 288) C dX9_grinds_288 (fun z288 hz2881 hz2882 => ?_)
          refine zs_iast (r := 2087) (pc := 289) C dX9_grinds_289 a_87 (by decide) (by omega) rfl (r_2087 _) (by omega) ?_
          refine zs_aload_n (pc := 290) C dX9_grinds_290 rfl ?_
          refine zs_getf (pc := 291) C dX9_grinds_291 w_X9_91 f_10_52 (by decide) ?_
          refine zs_bipush (pc := 294) C dX9_grinds_294 (by decide) (by decide) ?_
          refine zs_iload_n (pc := 296) C dX9_grinds_296 rfl ?_
          first | refine zs_imul (pc := 297) C dX9_grinds_297 (by omega) ?_ | refine zs_imulF (pc := 297) C dX9_grinds_297 (fun z297 hz2971 hz2972 => ?_)
          refine zs_iconst (pc := 298) C dX9_grinds_298 (by decide) ?_
          refine zs_iload_n (pc := 299) C dX9_grinds_299 rfl ?_
          first | refine zs_imul (pc := 300) C dX9_grinds_300 (by omega) ?_ | refine zs_imulF (pc := 300) C dX9_grinds_300 (fun z300 hz3001 hz3002 => ?_)
          first | refine zs_iadd (pc := 301) C dX9_grinds_301 (by omega) ?_ | refine zs_iaddF (pc := 301) C dX9_grinds_301 (fun z301 hz3011 hz3012 => ?_)
          refine zs_iload_n (pc := 302) C dX9_grinds_302 rfl ?_
          first | refine zs_iadd (pc := 303) C dX9_grinds_303 (by omega) ?_ | refine zs_iaddF (pc := 303) C dX9_grinds_303 (fun z303 hz3031 hz3032 => ?_)
          refine zs_dup2 (pc := 304) C dX9_grinds_304 ?_
          refine zs_iald (r := 2082) (pc := 305) C dX9_grinds_305 a_82 (by decide) (by omega) rfl (r_2082 _) (fun v305 e305 l305 u305 => ?_)
          try simp only [zuI_1, zuI_2, zuJ_1, zuJ_2, zuJ_3, zuP_1, zuP_2, zuP_3, zuC_1, zuC_2, reduceIte, Nat.reduceEqDiff, false_and, and_false, true_and, and_true, and_self, or_true, true_or, or_false, false_or] at e305
          refine zs_iload (pc := 306) C dX9_grinds_306 rfl ?_
          have J318 : ∀ (G8 : zH), (zsm [2091, 2092, 2093, 2094, 2095, 2096, 2097, 2098, 2099, 2100, 2088, 2087, 2082, 2084, 2083, 2089, 1050] G G8) → Z p l e (zrm 5) s m args below meth c Γ 9 0 0 (MQ below (zQc Γ (zpi (fun x G' => zsm [2091, 2092, 2093, 2094, 2095, 2096, 2097, 2098, 2099, 2100, 2088, 2087, 2082, 2084, 2083, 2089, 1050] G G' ∧ True))) args s 0 0 (zA Γ)) 318 [some (zr 10 w), some (zi b0), some (zi p0), some (zi s0), some (zi x4), some (zi x14), some (zi x6), some (zi v41), none] [] G8 := by
            intro G8 h318_0
            refine zs_aload_n (pc := 318) C dX9_grinds_318 rfl ?_
            refine zs_getf (pc := 319) C dX9_grinds_319 w_X9_97 f_10_54 (by decide) ?_
            refine zs_iconst (pc := 322) C dX9_grinds_322 (by decide) ?_
            refine zs_iload_n (pc := 323) C dX9_grinds_323 rfl ?_
            first | refine zs_imul (pc := 324) C dX9_grinds_324 (by omega) ?_ | refine zs_imulF (pc := 324) C dX9_grinds_324 (fun z324 hz3241 hz3242 => ?_)
            refine zs_iload_n (pc := 325) C dX9_grinds_325 rfl ?_
            first | refine zs_iadd (pc := 326) C dX9_grinds_326 (by omega) ?_ | refine zs_iaddF (pc := 326) C dX9_grinds_326 (fun z326 hz3261 hz3262 => ?_)
            refine zs_dup2 (pc := 327) C dX9_grinds_327 ?_
            refine zs_iald (r := 2084) (pc := 328) C dX9_grinds_328 a_84 (by decide) (by omega) rfl (r_2084 _) (fun v328 e328 l328 u328 => ?_)
            refine zs_iload (pc := 329) C dX9_grinds_329 rfl ?_
            have J341 : ∀ (G9 : zH), (zsm [2091, 2092, 2093, 2094, 2095, 2096, 2097, 2098, 2099, 2100, 2088, 2087, 2082, 2084, 2083, 2089, 1050] G G9) → Z p l e (zrm 5) s m args below meth c Γ 9 0 0 (MQ below (zQc Γ (zpi (fun x G' => zsm [2091, 2092, 2093, 2094, 2095, 2096, 2097, 2098, 2099, 2100, 2088, 2087, 2082, 2084, 2083, 2089, 1050] G G' ∧ True))) args s 0 0 (zA Γ)) 341 [some (zr 10 w), some (zi b0), some (zi p0), some (zi s0), some (zi x4), some (zi x14), some (zi x6), some (zi v41), none] [] G9 := by
              intro G9 h341_0
              refine zs_aload_n (pc := 341) C dX9_grinds_341 rfl ?_
              refine zs_getf (pc := 342) C dX9_grinds_342 w_X9_94 f_10_53 (by decide) ?_
              refine zs_iconst (pc := 345) C dX9_grinds_345 (by decide) ?_
              refine zs_iload_n (pc := 346) C dX9_grinds_346 rfl ?_
              first | refine zs_imul (pc := 347) C dX9_grinds_347 (by omega) ?_ | refine zs_imulF (pc := 347) C dX9_grinds_347 (fun z347 hz3471 hz3472 => ?_)
              refine zs_iload_n (pc := 348) C dX9_grinds_348 rfl ?_
              first | refine zs_iadd (pc := 349) C dX9_grinds_349 (by omega) ?_ | refine zs_iaddF (pc := 349) C dX9_grinds_349 (fun z349 hz3491 hz3492 => ?_)
              refine zs_dup2 (pc := 350) C dX9_grinds_350 ?_
              refine zs_iald (r := 2083) (pc := 351) C dX9_grinds_351 a_83 (by decide) (by omega) rfl (r_2083 _) (fun v351 e351 l351 u351 => ?_)
              refine zs_iconst (pc := 352) C dX9_grinds_352 (by decide) ?_
              first | refine zs_iadd (pc := 353) C dX9_grinds_353 (by omega) ?_ | refine zs_iaddF (pc := 353) C dX9_grinds_353 (fun z353 hz3531 hz3532 => ?_)
              refine zs_iast (r := 2083) (pc := 354) C dX9_grinds_354 a_83 (by decide) (by omega) rfl (r_2083 _) (by omega) ?_
              have J400 : ∀ (G10 : zH), (zsm [2091, 2092, 2093, 2094, 2095, 2096, 2097, 2098, 2099, 2100, 2088, 2087, 2082, 2084, 2083, 2089, 1050] G G10) → Z p l e (zrm 5) s m args below meth c Γ 9 0 0 (MQ below (zQc Γ (zpi (fun x G' => zsm [2091, 2092, 2093, 2094, 2095, 2096, 2097, 2098, 2099, 2100, 2088, 2087, 2082, 2084, 2083, 2089, 1050] G G' ∧ True))) args s 0 0 (zA Γ)) 400 [some (zr 10 w), some (zi b0), some (zi p0), some (zi s0), some (zi x4), some (zi x14), some (zi x6), some (zi v41), none] [] G10 := by
                intro G10 h400_0
                refine zs_iload (pc := 400) C dX9_grinds_400 rfl ?_
                exact zs_iret (pc := 402) C hr hlk dX9_grinds_402 ⟨by repeat (first | exact zsm_rf | assumption | refine zsm_C (by decide) ?_ | refine zsm_I (by decide) ?_ | refine zsm_J ?_ | refine zsm_c (by assumption) (by decide) ?_), trivial⟩
              refine zs_iload_n (pc := 355) C dX9_grinds_355 rfl ?_
              refine zs_if_eq (tgt := 366) (pc := 356) C dX9_grinds_356 (by decide) (fun h356 => ?_) (fun h356 => ?_)
              · skip
                refine zs_aload_n (pc := 366) C dX9_grinds_366 rfl ?_
                refine zs_getf (pc := 367) C dX9_grinds_367 w_X9_112 f_10_59 (by decide) ?_
                refine zs_iload_n (pc := 370) C dX9_grinds_370 rfl ?_
                refine zs_aload_n (pc := 371) C dX9_grinds_371 rfl ?_
                refine zs_getf (pc := 372) C dX9_grinds_372 w_X9_112 f_10_59 (by decide) ?_
                refine zs_iload_n (pc := 375) C dX9_grinds_375 rfl ?_
                refine zs_iald (r := 2089) (pc := 376) C dX9_grinds_376 a_89 (by decide) (by omega) rfl (r_2089 _) (fun v376 e376 l376 u376 => ?_)
                try simp only [zuI_1, zuI_2, zuJ_1, zuJ_2, zuJ_3, zuP_1, zuP_2, zuP_3, zuC_1, zuC_2, reduceIte, Nat.reduceEqDiff, false_and, and_false, true_and, and_true, and_self, or_true, true_or, or_false, false_or] at e376
                refine zs_iload (pc := 377) C dX9_grinds_377 rfl ?_
                first | refine zs_iadd (pc := 379) C dX9_grinds_379 (by omega) ?_ | refine zs_iaddF (pc := 379) C dX9_grinds_379 (fun z379 hz3791 hz3792 => ?_)
                refine zs_ldc (n := 99999) (pc := 380) C dX9_grinds_380 q_X9_216 (by decide) (by decide) ?_
                refine zs_icmp_le (tgt := 390) (pc := 382) C dX9_grinds_382 (by decide) (fun h382 => ?_) (fun h382 => ?_)
                · skip
                  refine zs_aload_n (pc := 390) C dX9_grinds_390 rfl ?_
                  refine zs_getf (pc := 391) C dX9_grinds_391 w_X9_112 f_10_59 (by decide) ?_
                  refine zs_iload_n (pc := 394) C dX9_grinds_394 rfl ?_
                  refine zs_iald (r := 2089) (pc := 395) C dX9_grinds_395 a_89 (by decide) (by omega) rfl (r_2089 _) (fun v395 e395 l395 u395 => ?_)
                  try simp only [zuI_1, zuI_2, zuJ_1, zuJ_2, zuJ_3, zuP_1, zuP_2, zuP_3, zuC_1, zuC_2, reduceIte, Nat.reduceEqDiff, false_and, and_false, true_and, and_true, and_self, or_true, true_or, or_false, false_or] at e395
                  refine zs_iload (pc := 396) C dX9_grinds_396 rfl ?_
                  first | refine zs_iadd (pc := 398) C dX9_grinds_398 (by omega) ?_ | refine zs_iaddF (pc := 398) C dX9_grinds_398 (fun z398 hz3981 hz3982 => ?_)
                  refine zs_iast (r := 2089) (pc := 399) C dX9_grinds_399 a_89 (by decide) (by omega) rfl (r_2089 _) (by omega) ?_
                  exact zs_wk (J400 _ (by repeat (first | exact zsm_rf | assumption | refine zsm_C (by decide) ?_ | refine zsm_I (by decide) ?_ | refine zsm_J ?_ | refine zsm_c (by assumption) (by decide) ?_))) (zwk_s rfl (zwk_s rfl (zwk_s rfl (zwk_s rfl (zwk_s rfl (zwk_s rfl (zwk_s rfl (zwk_s rfl (zwk_n zwk_0)))))))))
                · skip
                  refine zs_ldc (n := 99999) (pc := 385) C dX9_grinds_385 q_X9_216 (by decide) (by decide) ?_
                  refine zs_goto (tgt := 399) (pc := 387) C dX9_grinds_387 (by decide) ?_
                  refine zs_iast (r := 2089) (pc := 399) C dX9_grinds_399 a_89 (by decide) (by omega) rfl (r_2089 _) (by omega) ?_
                  exact zs_wk (J400 _ (by repeat (first | exact zsm_rf | assumption | refine zsm_C (by decide) ?_ | refine zsm_I (by decide) ?_ | refine zsm_J ?_ | refine zsm_c (by assumption) (by decide) ?_))) (zwk_s rfl (zwk_s rfl (zwk_s rfl (zwk_s rfl (zwk_s rfl (zwk_s rfl (zwk_s rfl (zwk_s rfl (zwk_n zwk_0)))))))))
              · skip
                refine zs_aload_n (pc := 359) C dX9_grinds_359 rfl ?_
                refine zs_geti (r := 1074) (pc := 360) C dX9_grinds_360 w_X9_148 f_10_74 rfl (r_1074 0) (fun v360 e360 l360 u360 => ?_)
                try simp only [zuI_1, zuI_2, zuJ_1, zuJ_2, zuJ_3, zuP_1, zuP_2, zuP_3, zuC_1, zuC_2, reduceIte, Nat.reduceEqDiff, false_and, and_false, true_and, and_true, and_self, or_true, true_or, or_false, false_or] at e360
                refine zs_if_eq (tgt := 400) (pc := 363) C dX9_grinds_363 (by decide) (fun h363 => ?_) (fun h363 => ?_)
                · skip
                  exact zs_wk (J400 _ (by repeat (first | exact zsm_rf | assumption | refine zsm_C (by decide) ?_ | refine zsm_I (by decide) ?_ | refine zsm_J ?_ | refine zsm_c (by assumption) (by decide) ?_))) (zwk_s rfl (zwk_s rfl (zwk_s rfl (zwk_s rfl (zwk_s rfl (zwk_s rfl (zwk_s rfl (zwk_s rfl (zwk_n zwk_0)))))))))
                · skip
                  refine zs_aload_n (pc := 366) C dX9_grinds_366 rfl ?_
                  refine zs_getf (pc := 367) C dX9_grinds_367 w_X9_112 f_10_59 (by decide) ?_
                  refine zs_iload_n (pc := 370) C dX9_grinds_370 rfl ?_
                  refine zs_aload_n (pc := 371) C dX9_grinds_371 rfl ?_
                  refine zs_getf (pc := 372) C dX9_grinds_372 w_X9_112 f_10_59 (by decide) ?_
                  refine zs_iload_n (pc := 375) C dX9_grinds_375 rfl ?_
                  refine zs_iald (r := 2089) (pc := 376) C dX9_grinds_376 a_89 (by decide) (by omega) rfl (r_2089 _) (fun v376 e376 l376 u376 => ?_)
                  try simp only [zuI_1, zuI_2, zuJ_1, zuJ_2, zuJ_3, zuP_1, zuP_2, zuP_3, zuC_1, zuC_2, reduceIte, Nat.reduceEqDiff, false_and, and_false, true_and, and_true, and_self, or_true, true_or, or_false, false_or] at e376
                  refine zs_iload (pc := 377) C dX9_grinds_377 rfl ?_
                  first | refine zs_iadd (pc := 379) C dX9_grinds_379 (by omega) ?_ | refine zs_iaddF (pc := 379) C dX9_grinds_379 (fun z379 hz3791 hz3792 => ?_)
                  refine zs_ldc (n := 99999) (pc := 380) C dX9_grinds_380 q_X9_216 (by decide) (by decide) ?_
                  refine zs_icmp_le (tgt := 390) (pc := 382) C dX9_grinds_382 (by decide) (fun h382 => ?_) (fun h382 => ?_)
                  · skip
                    refine zs_aload_n (pc := 390) C dX9_grinds_390 rfl ?_
                    refine zs_getf (pc := 391) C dX9_grinds_391 w_X9_112 f_10_59 (by decide) ?_
                    refine zs_iload_n (pc := 394) C dX9_grinds_394 rfl ?_
                    refine zs_iald (r := 2089) (pc := 395) C dX9_grinds_395 a_89 (by decide) (by omega) rfl (r_2089 _) (fun v395 e395 l395 u395 => ?_)
                    try simp only [zuI_1, zuI_2, zuJ_1, zuJ_2, zuJ_3, zuP_1, zuP_2, zuP_3, zuC_1, zuC_2, reduceIte, Nat.reduceEqDiff, false_and, and_false, true_and, and_true, and_self, or_true, true_or, or_false, false_or] at e395
                    refine zs_iload (pc := 396) C dX9_grinds_396 rfl ?_
                    first | refine zs_iadd (pc := 398) C dX9_grinds_398 (by omega) ?_ | refine zs_iaddF (pc := 398) C dX9_grinds_398 (fun z398 hz3981 hz3982 => ?_)
                    refine zs_iast (r := 2089) (pc := 399) C dX9_grinds_399 a_89 (by decide) (by omega) rfl (r_2089 _) (by omega) ?_
                    exact zs_wk (J400 _ (by repeat (first | exact zsm_rf | assumption | refine zsm_C (by decide) ?_ | refine zsm_I (by decide) ?_ | refine zsm_J ?_ | refine zsm_c (by assumption) (by decide) ?_))) (zwk_s rfl (zwk_s rfl (zwk_s rfl (zwk_s rfl (zwk_s rfl (zwk_s rfl (zwk_s rfl (zwk_s rfl (zwk_n zwk_0)))))))))
                  · skip
                    refine zs_ldc (n := 99999) (pc := 385) C dX9_grinds_385 q_X9_216 (by decide) (by decide) ?_
                    refine zs_goto (tgt := 399) (pc := 387) C dX9_grinds_387 (by decide) ?_
                    refine zs_iast (r := 2089) (pc := 399) C dX9_grinds_399 a_89 (by decide) (by omega) rfl (r_2089 _) (by omega) ?_
                    exact zs_wk (J400 _ (by repeat (first | exact zsm_rf | assumption | refine zsm_C (by decide) ?_ | refine zsm_I (by decide) ?_ | refine zsm_J ?_ | refine zsm_c (by assumption) (by decide) ?_))) (zwk_s rfl (zwk_s rfl (zwk_s rfl (zwk_s rfl (zwk_s rfl (zwk_s rfl (zwk_s rfl (zwk_s rfl (zwk_n zwk_0)))))))))
            refine zs_if_eq (tgt := 338) (pc := 331) C dX9_grinds_331 (by decide) (fun h331 => ?_) (fun h331 => ?_)
            · skip
              refine zs_iconst (pc := 338) C dX9_grinds_338 (by decide) ?_
              first | refine zs_iadd (pc := 339) C dX9_grinds_339 (by omega) ?_ | refine zs_iaddF (pc := 339) C dX9_grinds_339 (fun z339 hz3391 hz3392 => ?_)
              refine zs_iast (r := 2084) (pc := 340) C dX9_grinds_340 a_84 (by decide) (by omega) rfl (r_2084 _) (by omega) ?_
              exact zs_wk (J341 _ (by repeat (first | exact zsm_rf | assumption | refine zsm_C (by decide) ?_ | refine zsm_I (by decide) ?_ | refine zsm_J ?_ | refine zsm_c (by assumption) (by decide) ?_))) (zwk_s rfl (zwk_s rfl (zwk_s rfl (zwk_s rfl (zwk_s rfl (zwk_s rfl (zwk_s rfl (zwk_s rfl (zwk_n zwk_0)))))))))
            · skip
              refine zs_iconst (pc := 334) C dX9_grinds_334 (by decide) ?_
              refine zs_goto (tgt := 339) (pc := 335) C dX9_grinds_335 (by decide) ?_
              first | refine zs_iadd (pc := 339) C dX9_grinds_339 (by omega) ?_ | refine zs_iaddF (pc := 339) C dX9_grinds_339 (fun z339 hz3391 hz3392 => ?_)
              refine zs_iast (r := 2084) (pc := 340) C dX9_grinds_340 a_84 (by decide) (by omega) rfl (r_2084 _) (by omega) ?_
              exact zs_wk (J341 _ (by repeat (first | exact zsm_rf | assumption | refine zsm_C (by decide) ?_ | refine zsm_I (by decide) ?_ | refine zsm_J ?_ | refine zsm_c (by assumption) (by decide) ?_))) (zwk_s rfl (zwk_s rfl (zwk_s rfl (zwk_s rfl (zwk_s rfl (zwk_s rfl (zwk_s rfl (zwk_s rfl (zwk_n zwk_0)))))))))
          refine zs_if_eq (tgt := 315) (pc := 308) C dX9_grinds_308 (by decide) (fun h308 => ?_) (fun h308 => ?_)
          · skip
            refine zs_iconst (pc := 315) C dX9_grinds_315 (by decide) ?_
            first | refine zs_iadd (pc := 316) C dX9_grinds_316 (by omega) ?_ | refine zs_iaddF (pc := 316) C dX9_grinds_316 (fun z316 hz3161 hz3162 => ?_)
            refine zs_iast (r := 2082) (pc := 317) C dX9_grinds_317 a_82 (by decide) (by omega) rfl (r_2082 _) (by omega) ?_
            exact zs_wk (J318 _ (by repeat (first | exact zsm_rf | assumption | refine zsm_C (by decide) ?_ | refine zsm_I (by decide) ?_ | refine zsm_J ?_ | refine zsm_c (by assumption) (by decide) ?_))) (zwk_s rfl (zwk_s rfl (zwk_s rfl (zwk_s rfl (zwk_s rfl (zwk_s rfl (zwk_s rfl (zwk_s rfl (zwk_n zwk_0)))))))))
          · skip
            refine zs_iconst (pc := 311) C dX9_grinds_311 (by decide) ?_
            refine zs_goto (tgt := 316) (pc := 312) C dX9_grinds_312 (by decide) ?_
            first | refine zs_iadd (pc := 316) C dX9_grinds_316 (by omega) ?_ | refine zs_iaddF (pc := 316) C dX9_grinds_316 (fun z316 hz3161 hz3162 => ?_)
            refine zs_iast (r := 2082) (pc := 317) C dX9_grinds_317 a_82 (by decide) (by omega) rfl (r_2082 _) (by omega) ?_
            exact zs_wk (J318 _ (by repeat (first | exact zsm_rf | assumption | refine zsm_C (by decide) ?_ | refine zsm_I (by decide) ?_ | refine zsm_J ?_ | refine zsm_c (by assumption) (by decide) ?_))) (zwk_s rfl (zwk_s rfl (zwk_s rfl (zwk_s rfl (zwk_s rfl (zwk_s rfl (zwk_s rfl (zwk_s rfl (zwk_n zwk_0)))))))))
        refine zs_if_ne (tgt := 259) (pc := 149) C dX9_grinds_149 (by decide) (fun h149 => ?_) (fun h149 => ?_)
        · skip
          exact zs_wk (J259 _ (by repeat (first | exact zsm_rf | assumption | refine zsm_C (by decide) ?_ | refine zsm_I (by decide) ?_ | refine zsm_J ?_ | refine zsm_c (by assumption) (by decide) ?_)) (by first | omega | (simp only [zuI_1, zuI_2, zuJ_1, zuJ_2, zuJ_3, zuP_1, zuP_2, zuP_3, zuC_1, zuC_2, reduceIte, Nat.reduceEqDiff, false_and, and_false, true_and, and_true, and_self, or_true, true_or, or_false, false_or]; omega))) (zwk_s rfl (zwk_s rfl (zwk_s rfl (zwk_s rfl (zwk_s rfl (zwk_s rfl (zwk_s rfl (zwk_s rfl (zwk_n zwk_0)))))))))
        · skip
          refine zs_aload_n (pc := 152) C dX9_grinds_152 rfl ?_
          refine zs_getf (pc := 153) C dX9_grinds_153 w_X9_133 f_10_67 (by decide) ?_
          refine zs_iload (pc := 156) C dX9_grinds_156 rfl ?_
          refine zs_aload_n (pc := 158) C dX9_grinds_158 rfl ?_
          refine zs_getf (pc := 159) C dX9_grinds_159 w_X9_94 f_10_53 (by decide) ?_
          refine zs_iload_n (pc := 162) C dX9_grinds_162 rfl ?_
          refine zs_iald (r := 2083) (pc := 163) C dX9_grinds_163 a_83 (by decide) (by omega) rfl (r_2083 _) (fun v163 e163 l163 u163 => ?_)
          refine zs_iast (r := 2096) (pc := 164) C dX9_grinds_164 a_96 (by decide) (by omega) rfl (r_2096 _) (by omega) ?_
          refine zs_aload_n (pc := 165) C dX9_grinds_165 rfl ?_
          refine zs_getf (pc := 166) C dX9_grinds_166 w_X9_136 f_10_68 (by decide) ?_
          refine zs_iload (pc := 169) C dX9_grinds_169 rfl ?_
          refine zs_aload_n (pc := 171) C dX9_grinds_171 rfl ?_
          refine zs_getf (pc := 172) C dX9_grinds_172 w_X9_112 f_10_59 (by decide) ?_
          refine zs_iconst (pc := 175) C dX9_grinds_175 (by decide) ?_
          refine zs_iald (r := 2089) (pc := 176) C dX9_grinds_176 a_89 (by decide) (by omega) rfl (r_2089 _) (fun v176 e176 l176 u176 => ?_)
          try simp only [zuI_1, zuI_2, zuJ_1, zuJ_2, zuJ_3, zuP_1, zuP_2, zuP_3, zuC_1, zuC_2, reduceIte, Nat.reduceEqDiff, false_and, and_false, true_and, and_true, and_self, or_true, true_or, or_false, false_or] at e176
          refine zs_iast (r := 2097) (pc := 177) C dX9_grinds_177 a_97 (by decide) (by omega) rfl (r_2097 _) (by omega) ?_
          refine zs_aload_n (pc := 178) C dX9_grinds_178 rfl ?_
          refine zs_getf (pc := 179) C dX9_grinds_179 w_X9_139 f_10_69 (by decide) ?_
          refine zs_iload (pc := 182) C dX9_grinds_182 rfl ?_
          refine zs_aload_n (pc := 184) C dX9_grinds_184 rfl ?_
          refine zs_iconst (pc := 185) C dX9_grinds_185 (by decide) ?_
          refine zs_iload_n (pc := 186) C dX9_grinds_186 rfl ?_
          refine zVip2 (pc := 187) C dX9_grinds_187 v_X9_404 (c_X9_prideOf hX (by first | omega | (simp only [zuI_1, zuI_2, zuJ_1, zuJ_2, zuJ_3, zuP_1, zuP_2, zuP_3, zuC_1, zuC_2, reduceIte, Nat.reduceEqDiff, false_and, and_false, true_and, and_true, and_self, or_true, true_or, or_false, false_or]; omega)) (by first | omega | (simp only [zuI_1, zuI_2, zuJ_1, zuJ_2, zuJ_3, zuP_1, zuP_2, zuP_3, zuC_1, zuC_2, reduceIte, Nat.reduceEqDiff, false_and, and_false, true_and, and_true, and_self, or_true, true_or, or_false, false_or]; omega))) (by decide) (by decide) ⟨Nat.zero_le _, Nat.zero_le _⟩ (Nat.le_of_ble_eq_true rfl) (fun x187 l187 u187 hp187 => ?_)
          have hq187 := hp187
          try simp only [zuI_1, zuI_2, zuJ_1, zuJ_2, zuJ_3, zuP_1, zuP_2, zuP_3, zuC_1, zuC_2, reduceIte, Nat.reduceEqDiff, false_and, and_false, true_and, and_true, and_self, or_true, true_or, or_false, false_or] at hq187
          refine zs_iast (r := 2098) (pc := 190) C dX9_grinds_190 a_98 (by decide) (by omega) rfl (r_2098 _) (by omega) ?_
          refine zs_aload_n (pc := 191) C dX9_grinds_191 rfl ?_
          refine zs_getf (pc := 192) C dX9_grinds_192 w_X9_142 f_10_70 (by decide) ?_
          refine zs_iload (pc := 195) C dX9_grinds_195 rfl ?_
          refine zs_aload_n (pc := 197) C dX9_grinds_197 rfl ?_
          refine zs_getf (pc := 198) C dX9_grinds_198 w_X9_115 f_10_60 (by decide) ?_
          refine zs_iconst (pc := 201) C dX9_grinds_201 (by decide) ?_
          refine zs_iald (r := 2090) (pc := 202) C dX9_grinds_202 a_90 (by decide) (by omega) rfl (r_2090 _) (fun v202 e202 l202 u202 => ?_)
          try simp only [zuI_1, zuI_2, zuJ_1, zuJ_2, zuJ_3, zuP_1, zuP_2, zuP_3, zuC_1, zuC_2, reduceIte, Nat.reduceEqDiff, false_and, and_false, true_and, and_true, and_self, or_true, true_or, or_false, false_or] at e202
          refine zs_iast (r := 2099) (pc := 203) C dX9_grinds_203 a_99 (by decide) (by omega) rfl (r_2099 _) (by omega) ?_
          refine zs_aload_n (pc := 204) C dX9_grinds_204 rfl ?_
          refine zs_getf (pc := 205) C dX9_grinds_205 w_X9_145 f_10_71 (by decide) ?_
          refine zs_iload (pc := 208) C dX9_grinds_208 rfl ?_
          refine zs_iconst (pc := 210) C dX9_grinds_210 (by decide) ?_
          refine zs_iast (r := 2100) (pc := 211) C dX9_grinds_211 a_100 (by decide) (by omega) rfl (r_2100 _) (by omega) ?_
          refine zs_iconst (pc := 212) C dX9_grinds_212 (by decide) ?_
          refine zs_istore (pc := 213) C dX9_grinds_213 (by decide) ?_
          dsimp only [zset, zclr, znone]
          have L215 : ∀ (nn : Nat) (x8 : Int) (G71 : zH), (0 ≤ x8 ∧ x8 ≤ 4) → (zsm [2091, 2092, 2093, 2094, 2095, 2096, 2097, 2098, 2099, 2100, 2088, 2087, 2082, 2084, 2083, 2089, 1050] G G71) → (G71.1 2087 (Γ.2.1 w 57) b0.toNat ≤ 59) → (4 - x8).toNat < nn → Z p l e (zrm 5) s m args below meth c Γ 9 0 0 (MQ below (zQc Γ (zpi (fun x G' => zsm [2091, 2092, 2093, 2094, 2095, 2096, 2097, 2098, 2099, 2100, 2088, 2087, 2082, 2084, 2083, 2089, 1050] G G' ∧ True))) args s 0 0 (zA Γ)) 215 [some (zr 10 w), some (zi b0), some (zi p0), some (zi s0), some (zi x4), some (zi x14), some (zi x6), some (zi v41), some (zi x8)] [] G71 := by
            intro nn
            induction nn with
            | zero => intro x8 G71 h215_0 h215_1 h215_2 hm; exact absurd hm (Nat.not_lt_zero _)
            | succ nn ih215 =>
              intro x8 G71 h215_0 h215_1 h215_2 hm215
              refine zs_iload (pc := 215) C dX9_grinds_215 rfl ?_
              refine zs_aload_n (pc := 217) C dX9_grinds_217 rfl ?_
              refine zs_geti (r := 1012) (pc := 218) C dX9_grinds_218 w_X9_258 f_10_12 rfl (r_1012 0) (fun v218 e218 l218 u218 => ?_)
              refine zs_icmp_ge (tgt := 259) (pc := 221) C dX9_grinds_221 (by decide) (fun h221 => ?_) (fun h221 => ?_)
              · skip
                exact zs_wk (J259 _ (by repeat (first | exact zsm_rf | assumption | refine zsm_C (by decide) ?_ | refine zsm_I (by decide) ?_ | refine zsm_J ?_ | refine zsm_c (by assumption) (by decide) ?_)) (by first | omega | (simp only [zuI_1, zuI_2, zuJ_1, zuJ_2, zuJ_3, zuP_1, zuP_2, zuP_3, zuC_1, zuC_2, reduceIte, Nat.reduceEqDiff, false_and, and_false, true_and, and_true, and_self, or_true, true_or, or_false, false_or]; omega))) (zwk_s rfl (zwk_s rfl (zwk_s rfl (zwk_s rfl (zwk_s rfl (zwk_s rfl (zwk_s rfl (zwk_s rfl (zwk_n zwk_0)))))))))
              · skip
                refine zs_aload_n (pc := 224) C dX9_grinds_224 rfl ?_
                refine zs_getf (pc := 225) C dX9_grinds_225 w_X9_145 f_10_71 (by decide) ?_
                refine zs_iload (pc := 228) C dX9_grinds_228 rfl ?_
                refine zs_dup2 (pc := 230) C dX9_grinds_230 ?_
                refine zs_iald (r := 2100) (pc := 231) C dX9_grinds_231 a_100 (by decide) (by omega) rfl (r_2100 _) (fun v231 e231 l231 u231 => ?_)
                refine zs_aload_n (pc := 232) C dX9_grinds_232 rfl ?_
                refine zs_iconst (pc := 233) C dX9_grinds_233 (by decide) ?_
                refine zs_iload_n (pc := 234) C dX9_grinds_234 rfl ?_
                refine zs_iload (pc := 235) C dX9_grinds_235 rfl ?_
                refine zVip3 (pc := 237) C dX9_grinds_237 v_X9_394 (c_X9_leftOf hX (by omega) (by omega) (by omega)) (by decide) (by decide) ⟨Nat.zero_le _, Nat.zero_le _⟩ (Nat.le_of_ble_eq_true rfl) (fun x237 l237 u237 hp237 => ?_)
                have hq237 := hp237
                refine zs_if_le (tgt := 250) (pc := 240) C dX9_grinds_240 (by decide) (fun h240 => ?_) (fun h240 => ?_)
                · skip
                  refine zs_iconst (pc := 250) C dX9_grinds_250 (by decide) ?_
                  refine zs_iorF (pc := 251) C dX9_grinds_251 (fun z251 hz2511 hz2512 => ?_)
                  refine zs_iast (r := 2100) (pc := 252) C dX9_grinds_252 a_100 (by decide) (by omega) rfl (r_2100 _) (by omega) ?_
                  first | refine zs_iinc (pc := 253) C dX9_grinds_253 rfl (by decide) (by omega) ?_ | refine zs_iincF (pc := 253) C dX9_grinds_253 rfl (by decide) (fun z253 hz2531 hz2532 => ?_)
                  dsimp only [zset, zclr, znone]
                  refine zs_goto (tgt := 215) (pc := 256) C dX9_grinds_256 (by decide) ?_
                  exact zs_wk (ih215 _ _ (by first | omega | (simp only [zuI_1, zuI_2, zuJ_1, zuJ_2, zuJ_3, zuP_1, zuP_2, zuP_3, zuC_1, zuC_2, reduceIte, Nat.reduceEqDiff, false_and, and_false, true_and, and_true, and_self, or_true, true_or, or_false, false_or]; omega)) (by repeat (first | exact zsm_rf | assumption | refine zsm_C (by decide) ?_ | refine zsm_I (by decide) ?_ | refine zsm_J ?_ | refine zsm_c (by assumption) (by decide) ?_)) (by first | omega | (simp only [zuI_1, zuI_2, zuJ_1, zuJ_2, zuJ_3, zuP_1, zuP_2, zuP_3, zuC_1, zuC_2, reduceIte, Nat.reduceEqDiff, false_and, and_false, true_and, and_true, and_self, or_true, true_or, or_false, false_or]; omega)) (by first | omega | (simp only [zuI_1, zuI_2, zuJ_1, zuJ_2, zuJ_3, zuP_1, zuP_2, zuP_3, zuC_1, zuC_2, reduceIte, Nat.reduceEqDiff, false_and, and_false, true_and, and_true, and_self, or_true, true_or, or_false, false_or]; omega))) (zwk_s rfl (zwk_s rfl (zwk_s rfl (zwk_s rfl (zwk_s rfl (zwk_s rfl (zwk_s rfl (zwk_s rfl (zwk_s rfl zwk_0)))))))))
                · skip
                  refine zs_iconst (pc := 243) C dX9_grinds_243 (by decide) ?_
                  refine zs_iload (pc := 244) C dX9_grinds_244 rfl ?_
                  refine zs_ishlF (pc := 246) C dX9_grinds_246 (fun z246 hz2461 hz2462 => ?_)
                  refine zs_goto (tgt := 251) (pc := 247) C dX9_grinds_247 (by decide) ?_
                  refine zs_iorF (pc := 251) C dX9_grinds_251 (fun z251 hz2511 hz2512 => ?_)
                  refine zs_iast (r := 2100) (pc := 252) C dX9_grinds_252 a_100 (by decide) (by omega) rfl (r_2100 _) (by omega) ?_
                  first | refine zs_iinc (pc := 253) C dX9_grinds_253 rfl (by decide) (by omega) ?_ | refine zs_iincF (pc := 253) C dX9_grinds_253 rfl (by decide) (fun z253 hz2531 hz2532 => ?_)
                  dsimp only [zset, zclr, znone]
                  refine zs_goto (tgt := 215) (pc := 256) C dX9_grinds_256 (by decide) ?_
                  exact zs_wk (ih215 _ _ (by first | omega | (simp only [zuI_1, zuI_2, zuJ_1, zuJ_2, zuJ_3, zuP_1, zuP_2, zuP_3, zuC_1, zuC_2, reduceIte, Nat.reduceEqDiff, false_and, and_false, true_and, and_true, and_self, or_true, true_or, or_false, false_or]; omega)) (by repeat (first | exact zsm_rf | assumption | refine zsm_C (by decide) ?_ | refine zsm_I (by decide) ?_ | refine zsm_J ?_ | refine zsm_c (by assumption) (by decide) ?_)) (by first | omega | (simp only [zuI_1, zuI_2, zuJ_1, zuJ_2, zuJ_3, zuP_1, zuP_2, zuP_3, zuC_1, zuC_2, reduceIte, Nat.reduceEqDiff, false_and, and_false, true_and, and_true, and_self, or_true, true_or, or_false, false_or]; omega)) (by first | omega | (simp only [zuI_1, zuI_2, zuJ_1, zuJ_2, zuJ_3, zuP_1, zuP_2, zuP_3, zuC_1, zuC_2, reduceIte, Nat.reduceEqDiff, false_and, and_false, true_and, and_true, and_self, or_true, true_or, or_false, false_or]; omega))) (zwk_s rfl (zwk_s rfl (zwk_s rfl (zwk_s rfl (zwk_s rfl (zwk_s rfl (zwk_s rfl (zwk_s rfl (zwk_s rfl zwk_0)))))))))
          exact zs_wk (L215 _ _ _ (by first | omega | (simp only [zuI_1, zuI_2, zuJ_1, zuJ_2, zuJ_3, zuP_1, zuP_2, zuP_3, zuC_1, zuC_2, reduceIte, Nat.reduceEqDiff, false_and, and_false, true_and, and_true, and_self, or_true, true_or, or_false, false_or]; omega)) (by repeat (first | exact zsm_rf | assumption | refine zsm_C (by decide) ?_ | refine zsm_I (by decide) ?_ | refine zsm_J ?_ | refine zsm_c (by assumption) (by decide) ?_)) (by first | omega | (simp only [zuI_1, zuI_2, zuJ_1, zuJ_2, zuJ_3, zuP_1, zuP_2, zuP_3, zuC_1, zuC_2, reduceIte, Nat.reduceEqDiff, false_and, and_false, true_and, and_true, and_self, or_true, true_or, or_false, false_or]; omega)) (Nat.lt_succ_self _)) (zwk_s rfl (zwk_s rfl (zwk_s rfl (zwk_s rfl (zwk_s rfl (zwk_s rfl (zwk_s rfl (zwk_s rfl (zwk_s rfl zwk_0)))))))))
      refine zs_if_eq (tgt := 146) (pc := 139) C dX9_grinds_139 (by decide) (fun h139 => ?_) (fun h139 => ?_)
      · skip
        refine zs_iconst (pc := 146) C dX9_grinds_146 (by decide) ?_
        refine zs_iast (r := 2095) (pc := 147) C dX9_grinds_147 a_95 (by decide) (by omega) rfl (r_2095 _) (by omega) ?_
        exact zs_wk (J148 _ (by repeat (first | exact zsm_rf | assumption | refine zsm_C (by decide) ?_ | refine zsm_I (by decide) ?_ | refine zsm_J ?_ | refine zsm_c (by assumption) (by decide) ?_)) (by first | omega | (simp only [zuI_1, zuI_2, zuJ_1, zuJ_2, zuJ_3, zuP_1, zuP_2, zuP_3, zuC_1, zuC_2, reduceIte, Nat.reduceEqDiff, false_and, and_false, true_and, and_true, and_self, or_true, true_or, or_false, false_or]; omega))) (zwk_s rfl (zwk_s rfl (zwk_s rfl (zwk_s rfl (zwk_s rfl (zwk_s rfl (zwk_s rfl (zwk_s rfl (zwk_n zwk_0)))))))))
      · skip
        refine zs_iconst (pc := 142) C dX9_grinds_142 (by decide) ?_
        refine zs_goto (tgt := 147) (pc := 143) C dX9_grinds_143 (by decide) ?_
        refine zs_iast (r := 2095) (pc := 147) C dX9_grinds_147 a_95 (by decide) (by omega) rfl (r_2095 _) (by omega) ?_
        exact zs_wk (J148 _ (by repeat (first | exact zsm_rf | assumption | refine zsm_C (by decide) ?_ | refine zsm_I (by decide) ?_ | refine zsm_J ?_ | refine zsm_c (by assumption) (by decide) ?_)) (by first | omega | (simp only [zuI_1, zuI_2, zuJ_1, zuJ_2, zuJ_3, zuP_1, zuP_2, zuP_3, zuC_1, zuC_2, reduceIte, Nat.reduceEqDiff, false_and, and_false, true_and, and_true, and_self, or_true, true_or, or_false, false_or]; omega))) (zwk_s rfl (zwk_s rfl (zwk_s rfl (zwk_s rfl (zwk_s rfl (zwk_s rfl (zwk_s rfl (zwk_s rfl (zwk_n zwk_0)))))))))
    refine zs_icmp_ge (tgt := 119) (pc := 107) C dX9_grinds_107 (by decide) (fun h107 => ?_) (fun h107 => ?_)
    · skip
      refine zs_aload_n (pc := 119) C dX9_grinds_119 rfl ?_
      refine zs_getf (pc := 120) C dX9_grinds_120 w_X9_20 f_10_22 (by decide) ?_
      refine zs_iconst (pc := 123) C dX9_grinds_123 (by decide) ?_
      refine zs_iald (r := 2059) (pc := 124) C dX9_grinds_124 a_59 (by decide) (by omega) rfl (show zrg 2059 (1 : Int).toNat = (0, 99) from rfl) (fun v124 e124 l124 u124 => ?_)
      try simp only [zuI_1, zuI_2, zuJ_1, zuJ_2, zuJ_3, zuP_1, zuP_2, zuP_3, zuC_1, zuC_2, reduceIte, Nat.reduceEqDiff, false_and, and_false, true_and, and_true, and_self, or_true, true_or, or_false, false_or] at e124
      refine zs_iast (r := 2094) (pc := 125) C dX9_grinds_125 a_94 (by decide) (by omega) rfl (r_2094 _) (by omega) ?_
      exact zs_wk (J126 _ (by repeat (first | exact zsm_rf | assumption | refine zsm_C (by decide) ?_ | refine zsm_I (by decide) ?_ | refine zsm_J ?_ | refine zsm_c (by assumption) (by decide) ?_)) (by first | omega | (simp only [zuI_1, zuI_2, zuJ_1, zuJ_2, zuJ_3, zuP_1, zuP_2, zuP_3, zuC_1, zuC_2, reduceIte, Nat.reduceEqDiff, false_and, and_false, true_and, and_true, and_self, or_true, true_or, or_false, false_or]; omega))) (zwk_s rfl (zwk_s rfl (zwk_s rfl (zwk_s rfl (zwk_s rfl (zwk_s rfl (zwk_s rfl (zwk_s rfl (zwk_n zwk_0)))))))))
    · skip
      refine zs_aload_n (pc := 110) C dX9_grinds_110 rfl ?_
      refine zs_getf (pc := 111) C dX9_grinds_111 w_X9_109 f_10_58 (by decide) ?_
      refine zs_iload_n (pc := 114) C dX9_grinds_114 rfl ?_
      refine zs_iald (r := 2088) (pc := 115) C dX9_grinds_115 a_88 (by decide) (by omega) rfl (r_2088 _) (fun v115 e115 l115 u115 => ?_)
      try simp only [zuI_1, zuI_2, zuJ_1, zuJ_2, zuJ_3, zuP_1, zuP_2, zuP_3, zuC_1, zuC_2, reduceIte, Nat.reduceEqDiff, false_and, and_false, true_and, and_true, and_self, or_true, true_or, or_false, false_or] at e115
      refine zs_goto (tgt := 125) (pc := 116) C dX9_grinds_116 (by decide) ?_
      refine zs_iast (r := 2094) (pc := 125) C dX9_grinds_125 a_94 (by decide) (by omega) rfl (r_2094 _) (by omega) ?_
      exact zs_wk (J126 _ (by repeat (first | exact zsm_rf | assumption | refine zsm_C (by decide) ?_ | refine zsm_I (by decide) ?_ | refine zsm_J ?_ | refine zsm_c (by assumption) (by decide) ?_)) (by first | omega | (simp only [zuI_1, zuI_2, zuJ_1, zuJ_2, zuJ_3, zuP_1, zuP_2, zuP_3, zuC_1, zuC_2, reduceIte, Nat.reduceEqDiff, false_and, and_false, true_and, and_true, and_self, or_true, true_or, or_false, false_or]; omega))) (zwk_s rfl (zwk_s rfl (zwk_s rfl (zwk_s rfl (zwk_s rfl (zwk_s rfl (zwk_s rfl (zwk_s rfl (zwk_n zwk_0)))))))))
  refine zs_if_ne (tgt := 33) (pc := 26) C dX9_grinds_26 (by decide) (fun h26 => ?_) (fun h26 => ?_)
  · skip
    refine zs_iconst (pc := 33) C dX9_grinds_33 (by decide) ?_
    refine zs_istore (pc := 34) C dX9_grinds_34 (by decide) ?_
    dsimp only [zset, zclr, znone]
    exact zs_wk (J36 _ (by first | omega | (simp only [zuI_1, zuI_2, zuJ_1, zuJ_2, zuJ_3, zuP_1, zuP_2, zuP_3, zuC_1, zuC_2, reduceIte, Nat.reduceEqDiff, false_and, and_false, true_and, and_true, and_self, or_true, true_or, or_false, false_or]; omega))) (zwk_s rfl (zwk_s rfl (zwk_s rfl (zwk_s rfl (zwk_s rfl (zwk_s rfl (zwk_s rfl (zwk_n (zwk_n zwk_0)))))))))
  · skip
    refine zs_iconst (pc := 29) C dX9_grinds_29 (by decide) ?_
    refine zs_goto (tgt := 34) (pc := 30) C dX9_grinds_30 (by decide) ?_
    refine zs_istore (pc := 34) C dX9_grinds_34 (by decide) ?_
    dsimp only [zset, zclr, znone]
    exact zs_wk (J36 _ (by first | omega | (simp only [zuI_1, zuI_2, zuJ_1, zuJ_2, zuJ_3, zuP_1, zuP_2, zuP_3, zuC_1, zuC_2, reduceIte, Nat.reduceEqDiff, false_and, and_false, true_and, and_true, and_self, or_true, true_or, or_false, false_or]; omega))) (zwk_s rfl (zwk_s rfl (zwk_s rfl (zwk_s rfl (zwk_s rfl (zwk_s rfl (zwk_s rfl (zwk_n (zwk_n zwk_0)))))))))

set_option maxHeartbeats 4000000 in
set_option maxRecDepth 100000 in
theorem c_X9_asked {l : Launch} {Γ : zΓ} {G : zH} {w : Nat} {p0 : Int} (hX : zXs Γ) (hp : 0 ≤ p0 ∧ p0 ≤ 4) : zMet l Γ yX9_asked cX9_asked 6 (some .int) 2 [zr 10 w, zi p0] G (zpi (fun x G' => zsm [] G G' ∧ (-1 ≤ x ∧ x ≤ 3))) := by
  refine zMet_of RX9 hX (by decide) rfl (Nat.le_of_ble_eq_true rfl) ?_
  intro p e s m args below meth c C hr hlk
  show Z p l e (zrm 2) s m args below meth c Γ 6 0 0 (MQ below (zQc Γ (zpi (fun x G' => zsm [] G G' ∧ (-1 ≤ x ∧ x ≤ 3)))) args s 0 0 (zA Γ)) 0 [some (zr 10 w), some (zi p0), none, none, none, none] [] G
  refine zs_loc 1 rfl (fun ha1 hb1 => ?_)
  refine zs_good (fun hGd => ?_)
  have hsn : 0 ≤ G.1 1012 w 0 ∧ G.1 1012 w 0 ≤ 4 := by have := hGd.1 1012 w 0; rw [r_1012] at this; exact this
  refine zs_aload_n (pc := 0) C dX9_asked_0 rfl ?_
  refine zs_iload_n (pc := 1) C dX9_asked_1 rfl ?_
  refine zVip1 (pc := 2) C dX9_asked_2 v_X9_456 (c_X9_heaviest hX (by omega)) (by decide) (by decide) ⟨Nat.zero_le _, Nat.zero_le _⟩ (Nat.le_of_ble_eq_true rfl) (fun x2 l2 u2 hp2 => ?_)
  have hq2 := hp2
  refine zs_istore_n (pc := 5) C dX9_asked_5 (by decide) ?_
  dsimp only [zset, zclr, znone]
  refine zs_aload_n (pc := 6) C dX9_asked_6 rfl ?_
  refine zs_bipush (pc := 7) C dX9_asked_7 (by decide) (by decide) ?_
  refine zVi1 (pc := 9) C dX9_asked_9 v_X9_459 (c_X9_number1 hX (by omega)) (by decide) (by decide) ⟨Nat.zero_le _, Nat.zero_le _⟩ (Nat.le_of_ble_eq_true rfl) (fun x9 G9 l9 u9 hp9 => ?_)
  obtain ⟨hz9, hq9⟩ := hp9
  have hs9 := zsm_at hz9 1012 w 0 (by decide)
  refine zs_aload_n (pc := 12) C dX9_asked_12 rfl ?_
  refine zs_getf (pc := 13) C dX9_asked_13 w_X9_36 f_10_27 (by decide) ?_
  refine zs_iload_n (pc := 16) C dX9_asked_16 rfl ?_
  refine zs_iald (r := 2064) (pc := 17) C dX9_asked_17 a_64 (by decide) (by omega) rfl (r_2064 _) (fun v17 e17 l17 u17 => ?_)
  refine zs_icmp_ge (tgt := 27) (pc := 18) C dX9_asked_18 (by decide) (fun h18 => ?_) (fun h18 => ?_)
  · skip
    refine zs_iconst (pc := 27) C dX9_asked_27 (by decide) ?_
    refine zs_istore_n (pc := 28) C dX9_asked_28 (by decide) ?_
    dsimp only [zset, zclr, znone]
    refine zs_iconst (pc := 29) C dX9_asked_29 (by decide) ?_
    refine zs_istore (pc := 30) C dX9_asked_30 (by decide) ?_
    dsimp only [zset, zclr, znone]
    have L32 : ∀ (nn : Nat) (x3 x4 : Int), (0 ≤ x4 ∧ x4 ≤ 4) → (x4 ≤ G.1 1012 w 0) → (x3 = zct (lfc Γ w G p0) x4.toNat) → (4 - x4).toNat < nn → Z p l e (zrm 2) s m args below meth c Γ 6 0 0 (MQ below (zQc Γ (zpi (fun x G' => zsm [] G G' ∧ (-1 ≤ x ∧ x ≤ 3)))) args s 0 0 (zA Γ)) 32 [some (zr 10 w), some (zi p0), some (zi x2), some (zi x3), some (zi x4), none] [] G9 := by
      intro nn
      induction nn with
      | zero => intro x3 x4 h32_0 h32_1 h32_2 hm; exact absurd hm (Nat.not_lt_zero _)
      | succ nn ih32 =>
        intro x3 x4 h32_0 h32_1 h32_2 hm32
        have hcz0 := zct_le (lfc Γ w G p0) x4.toNat
        refine zs_iload (pc := 32) C dX9_asked_32 rfl ?_
        refine zs_aload_n (pc := 34) C dX9_asked_34 rfl ?_
        refine zs_geti (r := 1012) (pc := 35) C dX9_asked_35 w_X9_258 f_10_12 rfl (r_1012 0) (fun v35 e35 l35 u35 => ?_)
        refine zs_icmp_ge (tgt := 66) (pc := 38) C dX9_asked_38 (by decide) (fun h38 => ?_) (fun h38 => ?_)
        · skip
          have hx4 : x4 = G.1 1012 w 0 := by omega
          rw [hx4] at h32_2
          have hcz := zct_le (lfc Γ w G p0) (G.1 1012 w 0).toNat
          refine zs_iload_n (pc := 66) C dX9_asked_66 rfl ?_
          refine zs_if_ne (tgt := 72) (pc := 67) C dX9_asked_67 (by decide) (fun h67 => ?_) (fun h67 => ?_)
          · skip
            refine zs_aload_n (pc := 72) C dX9_asked_72 rfl ?_
            refine zs_iload_n (pc := 73) C dX9_asked_73 rfl ?_
            refine zVi1 (pc := 74) C dX9_asked_74 v_X9_459 (c_X9_number1 hX (by omega)) (by decide) (by decide) ⟨Nat.zero_le _, Nat.zero_le _⟩ (Nat.le_of_ble_eq_true rfl) (fun x74 G74 l74 u74 hp74 => ?_)
            obtain ⟨hz74, hq74⟩ := hp74
            refine zs_istore (pc := 77) C dX9_asked_77 (by decide) ?_
            dsimp only [zset, zclr, znone]
            refine zs_iconst (pc := 79) C dX9_asked_79 (by decide) ?_
            refine zs_istore (pc := 80) C dX9_asked_80 (by decide) ?_
            dsimp only [zset, zclr, znone]
            have L82 : ∀ (nn : Nat) (x4 x5 : Int), (0 ≤ x5 ∧ x5 ≤ 4) → (0 ≤ x4) → (x4 < zct (lfc Γ w G p0) (G.1 1012 w 0).toNat - zct (lfc Γ w G p0) x5.toNat) → (5 - x5).toNat < nn → Z p l e (zrm 2) s m args below meth c Γ 6 0 0 (MQ below (zQc Γ (zpi (fun x G' => zsm [] G G' ∧ (-1 ≤ x ∧ x ≤ 3)))) args s 0 0 (zA Γ)) 82 [some (zr 10 w), some (zi p0), some (zi x2), none, some (zi x4), some (zi x5)] [] G74 := by
              intro nn
              induction nn with
              | zero => intro x4 x5 h82_0 h82_1 h82_2 hm; exact absurd hm (Nat.not_lt_zero _)
              | succ nn ih82 =>
                intro x4 x5 h82_0 h82_1 h82_2 hm82
                have hcz2 := zct_le (lfc Γ w G p0) x5.toNat
                have hlt : x5 < G.1 1012 w 0 := by
                  rcases Int.lt_or_le x5 (G.1 1012 w 0) with q | q
                  · exact q
                  · have := zct_mono (lfc Γ w G p0) (n := (G.1 1012 w 0).toNat) (m := x5.toNat) (by omega)
                    omega
                refine zs_aload_n (pc := 82) C dX9_asked_82 rfl ?_
                refine zs_iconst (pc := 83) C dX9_asked_83 (by decide) ?_
                refine zs_iload_n (pc := 84) C dX9_asked_84 rfl ?_
                refine zs_iload (pc := 85) C dX9_asked_85 rfl ?_
                refine zVip3 (pc := 87) C dX9_asked_87 v_X9_394 (c_X9_leftOf hX (by omega) (by omega) (by omega)) (by decide) (by decide) ⟨Nat.zero_le _, Nat.zero_le _⟩ (Nat.le_of_ble_eq_true rfl) (fun x87 l87 u87 hp87 => ?_)
                have hq87 := hp87
                have hc2 := lfc_at (Γ := Γ) (w := w) (G := G) (p := p0) (t := x5) (by omega) (zsm_tr hz9 hz74 |>.1 2081 (by decide)) (zsm_tr hz9 hz74 |>.1 2082 (by decide)) hq87
                have hst2 := zct_step (x3 := zct (lfc Γ w G p0) x5.toNat) rfl (by omega) hc2
                refine zs_if_gt (tgt := 98) (pc := 90) C dX9_asked_90 (by decide) (fun h90 => ?_) (fun h90 => ?_)
                · skip
                  refine zs_iload (pc := 98) C dX9_asked_98 rfl ?_
                  refine zs_aload_n (pc := 100) C dX9_asked_100 rfl ?_
                  refine zs_iconst (pc := 101) C dX9_asked_101 (by decide) ?_
                  refine zs_iload_n (pc := 102) C dX9_asked_102 rfl ?_
                  refine zs_iload (pc := 103) C dX9_asked_103 rfl ?_
                  refine zVip3 (pc := 105) C dX9_asked_105 v_X9_394 (c_X9_leftOf hX (by omega) (by omega) (by omega)) (by decide) (by decide) ⟨Nat.zero_le _, Nat.zero_le _⟩ (Nat.le_of_ble_eq_true rfl) (fun x105 l105 u105 hp105 => ?_)
                  have hq105 := hp105
                  have hc3 := lfc_at (Γ := Γ) (w := w) (G := G) (p := p0) (t := x5) (by omega) (zsm_tr hz9 hz74 |>.1 2081 (by decide)) (zsm_tr hz9 hz74 |>.1 2082 (by decide)) hq105
                  have hst3 := zct_step (x3 := zct (lfc Γ w G p0) x5.toNat) rfl (by omega) hc3
                  have hsame : x105 = x87 := by rw [hq105, hq87]
                  refine zs_if_ne (tgt := 115) (pc := 108) C dX9_asked_108 (by decide) (fun h108 => ?_) (fun h108 => ?_)
                  · skip
                    refine zs_iconst (pc := 115) C dX9_asked_115 (by decide) ?_
                    first | refine zs_isub (pc := 116) C dX9_asked_116 (by omega) ?_ | refine zs_isubF (pc := 116) C dX9_asked_116 (fun z116 hz1161 hz1162 => ?_)
                    refine zs_istore (pc := 117) C dX9_asked_117 (by decide) ?_
                    dsimp only [zset, zclr, znone]
                    first | refine zs_iinc (pc := 119) C dX9_asked_119 rfl (by decide) (by omega) ?_ | refine zs_iincF (pc := 119) C dX9_asked_119 rfl (by decide) (fun z119 hz1191 hz1192 => ?_)
                    dsimp only [zset, zclr, znone]
                    refine zs_goto (tgt := 82) (pc := 122) C dX9_asked_122 (by decide) ?_
                    exact zs_wk (ih82 _ _ (by omega) (by omega) (by omega) (by first | omega | (simp only [zuI_1, zuI_2, zuJ_1, zuJ_2, zuJ_3, zuP_1, zuP_2, zuP_3, zuC_1, zuC_2, reduceIte, Nat.reduceEqDiff, false_and, and_false, true_and, and_true, and_self, or_true, true_or, or_false, false_or]; omega))) (zwk_s rfl (zwk_s rfl (zwk_s rfl (zwk_n (zwk_s rfl (zwk_s rfl zwk_0))))))
                  · skip
                    refine zs_iconst (pc := 111) C dX9_asked_111 (by decide) ?_
                    refine zs_goto (tgt := 116) (pc := 112) C dX9_asked_112 (by decide) ?_
                    first | refine zs_isub (pc := 116) C dX9_asked_116 (by omega) ?_ | refine zs_isubF (pc := 116) C dX9_asked_116 (fun z116 hz1161 hz1162 => ?_)
                    refine zs_istore (pc := 117) C dX9_asked_117 (by decide) ?_
                    dsimp only [zset, zclr, znone]
                    first | refine zs_iinc (pc := 119) C dX9_asked_119 rfl (by decide) (by omega) ?_ | refine zs_iincF (pc := 119) C dX9_asked_119 rfl (by decide) (fun z119 hz1191 hz1192 => ?_)
                    dsimp only [zset, zclr, znone]
                    refine zs_goto (tgt := 82) (pc := 122) C dX9_asked_122 (by decide) ?_
                    exact zs_wk (ih82 _ _ (by omega) (by omega) (by omega) (by first | omega | (simp only [zuI_1, zuI_2, zuJ_1, zuJ_2, zuJ_3, zuP_1, zuP_2, zuP_3, zuC_1, zuC_2, reduceIte, Nat.reduceEqDiff, false_and, and_false, true_and, and_true, and_self, or_true, true_or, or_false, false_or]; omega))) (zwk_s rfl (zwk_s rfl (zwk_s rfl (zwk_n (zwk_s rfl (zwk_s rfl zwk_0))))))
                · skip
                  refine zs_iload (pc := 93) C dX9_asked_93 rfl ?_
                  refine zs_if_le (tgt := 125) (pc := 95) C dX9_asked_95 (by decide) (fun h95 => ?_) (fun h95 => ?_)
                  · skip
                    refine zs_iload (pc := 125) C dX9_asked_125 rfl ?_
                    exact zs_iret (pc := 127) C hr hlk dX9_asked_127 ⟨by repeat (first | exact zsm_rf | assumption | refine zsm_C (by decide) ?_ | refine zsm_I (by decide) ?_ | refine zsm_J ?_ | refine zsm_c (by assumption) (by decide) ?_), by first | omega | (simp only [zuI_1, zuI_2, zuJ_1, zuJ_2, zuJ_3, zuP_1, zuP_2, zuP_3, zuC_1, zuC_2, reduceIte, Nat.reduceEqDiff, false_and, and_false, true_and, and_true, and_self, or_true, true_or, or_false, false_or]; omega)⟩
                  · skip
                    refine zs_iload (pc := 98) C dX9_asked_98 rfl ?_
                    refine zs_aload_n (pc := 100) C dX9_asked_100 rfl ?_
                    refine zs_iconst (pc := 101) C dX9_asked_101 (by decide) ?_
                    refine zs_iload_n (pc := 102) C dX9_asked_102 rfl ?_
                    refine zs_iload (pc := 103) C dX9_asked_103 rfl ?_
                    refine zVip3 (pc := 105) C dX9_asked_105 v_X9_394 (c_X9_leftOf hX (by omega) (by omega) (by omega)) (by decide) (by decide) ⟨Nat.zero_le _, Nat.zero_le _⟩ (Nat.le_of_ble_eq_true rfl) (fun x105 l105 u105 hp105 => ?_)
                    have hq105 := hp105
                    have hc3 := lfc_at (Γ := Γ) (w := w) (G := G) (p := p0) (t := x5) (by omega) (zsm_tr hz9 hz74 |>.1 2081 (by decide)) (zsm_tr hz9 hz74 |>.1 2082 (by decide)) hq105
                    have hst3 := zct_step (x3 := zct (lfc Γ w G p0) x5.toNat) rfl (by omega) hc3
                    have hsame : x105 = x87 := by rw [hq105, hq87]
                    refine zs_if_ne (tgt := 115) (pc := 108) C dX9_asked_108 (by decide) (fun h108 => ?_) (fun h108 => ?_)
                    · skip
                      refine zs_iconst (pc := 115) C dX9_asked_115 (by decide) ?_
                      first | refine zs_isub (pc := 116) C dX9_asked_116 (by omega) ?_ | refine zs_isubF (pc := 116) C dX9_asked_116 (fun z116 hz1161 hz1162 => ?_)
                      refine zs_istore (pc := 117) C dX9_asked_117 (by decide) ?_
                      dsimp only [zset, zclr, znone]
                      first | refine zs_iinc (pc := 119) C dX9_asked_119 rfl (by decide) (by omega) ?_ | refine zs_iincF (pc := 119) C dX9_asked_119 rfl (by decide) (fun z119 hz1191 hz1192 => ?_)
                      dsimp only [zset, zclr, znone]
                      refine zs_goto (tgt := 82) (pc := 122) C dX9_asked_122 (by decide) ?_
                      exact zs_wk (ih82 _ _ (by omega) (by omega) (by omega) (by first | omega | (simp only [zuI_1, zuI_2, zuJ_1, zuJ_2, zuJ_3, zuP_1, zuP_2, zuP_3, zuC_1, zuC_2, reduceIte, Nat.reduceEqDiff, false_and, and_false, true_and, and_true, and_self, or_true, true_or, or_false, false_or]; omega))) (zwk_s rfl (zwk_s rfl (zwk_s rfl (zwk_n (zwk_s rfl (zwk_s rfl zwk_0))))))
                    · skip
                      refine zs_iconst (pc := 111) C dX9_asked_111 (by decide) ?_
                      refine zs_goto (tgt := 116) (pc := 112) C dX9_asked_112 (by decide) ?_
                      first | refine zs_isub (pc := 116) C dX9_asked_116 (by omega) ?_ | refine zs_isubF (pc := 116) C dX9_asked_116 (fun z116 hz1161 hz1162 => ?_)
                      refine zs_istore (pc := 117) C dX9_asked_117 (by decide) ?_
                      dsimp only [zset, zclr, znone]
                      first | refine zs_iinc (pc := 119) C dX9_asked_119 rfl (by decide) (by omega) ?_ | refine zs_iincF (pc := 119) C dX9_asked_119 rfl (by decide) (fun z119 hz1191 hz1192 => ?_)
                      dsimp only [zset, zclr, znone]
                      refine zs_goto (tgt := 82) (pc := 122) C dX9_asked_122 (by decide) ?_
                      exact zs_wk (ih82 _ _ (by omega) (by omega) (by omega) (by first | omega | (simp only [zuI_1, zuI_2, zuJ_1, zuJ_2, zuJ_3, zuP_1, zuP_2, zuP_3, zuC_1, zuC_2, reduceIte, Nat.reduceEqDiff, false_and, and_false, true_and, and_true, and_self, or_true, true_or, or_false, false_or]; omega))) (zwk_s rfl (zwk_s rfl (zwk_s rfl (zwk_n (zwk_s rfl (zwk_s rfl zwk_0))))))
            exact zs_wk (L82 _ _ _ (by omega) (by omega) (by rw [show (0 : Int).toNat = 0 from rfl, zct_0]; omega) (Nat.lt_succ_self _)) (zwk_s rfl (zwk_s rfl (zwk_s rfl (zwk_n (zwk_s rfl (zwk_s rfl zwk_0))))))
          · skip
            refine zs_iconst (pc := 70) C dX9_asked_70 (by decide) ?_
            exact zs_iret (pc := 71) C hr hlk dX9_asked_71 ⟨by repeat (first | exact zsm_rf | assumption | refine zsm_C (by decide) ?_ | refine zsm_I (by decide) ?_ | refine zsm_J ?_ | refine zsm_c (by assumption) (by decide) ?_), by first | omega | (simp only [zuI_1, zuI_2, zuJ_1, zuJ_2, zuJ_3, zuP_1, zuP_2, zuP_3, zuC_1, zuC_2, reduceIte, Nat.reduceEqDiff, false_and, and_false, true_and, and_true, and_self, or_true, true_or, or_false, false_or]; omega)⟩
        · skip
          refine zs_iload_n (pc := 41) C dX9_asked_41 rfl ?_
          refine zs_aload_n (pc := 42) C dX9_asked_42 rfl ?_
          refine zs_iconst (pc := 43) C dX9_asked_43 (by decide) ?_
          refine zs_iload_n (pc := 44) C dX9_asked_44 rfl ?_
          refine zs_iload (pc := 45) C dX9_asked_45 rfl ?_
          refine zVip3 (pc := 47) C dX9_asked_47 v_X9_394 (c_X9_leftOf hX (by omega) (by omega) (by omega)) (by decide) (by decide) ⟨Nat.zero_le _, Nat.zero_le _⟩ (Nat.le_of_ble_eq_true rfl) (fun x47 l47 u47 hp47 => ?_)
          have hq47 := hp47
          have hc := lfc_at (Γ := Γ) (w := w) (G := G) (p := p0) (t := x4) h32_0.1 (hz9.1 2081 (by decide)) (hz9.1 2082 (by decide)) hq47
          have hst := zct_step h32_2 h32_0.1 hc
          refine zs_if_ne (tgt := 57) (pc := 50) C dX9_asked_50 (by decide) (fun h50 => ?_) (fun h50 => ?_)
          · skip
            refine zs_iconst (pc := 57) C dX9_asked_57 (by decide) ?_
            first | refine zs_iadd (pc := 58) C dX9_asked_58 (by omega) ?_ | refine zs_iaddF (pc := 58) C dX9_asked_58 (fun z58 hz581 hz582 => ?_)
            refine zs_istore_n (pc := 59) C dX9_asked_59 (by decide) ?_
            dsimp only [zset, zclr, znone]
            first | refine zs_iinc (pc := 60) C dX9_asked_60 rfl (by decide) (by omega) ?_ | refine zs_iincF (pc := 60) C dX9_asked_60 rfl (by decide) (fun z60 hz601 hz602 => ?_)
            dsimp only [zset, zclr, znone]
            refine zs_goto (tgt := 32) (pc := 63) C dX9_asked_63 (by decide) ?_
            exact zs_wk (ih32 _ _ (by omega) (by omega) (by omega) (by first | omega | (simp only [zuI_1, zuI_2, zuJ_1, zuJ_2, zuJ_3, zuP_1, zuP_2, zuP_3, zuC_1, zuC_2, reduceIte, Nat.reduceEqDiff, false_and, and_false, true_and, and_true, and_self, or_true, true_or, or_false, false_or]; omega))) (zwk_s rfl (zwk_s rfl (zwk_s rfl (zwk_s rfl (zwk_s rfl (zwk_n zwk_0))))))
          · skip
            refine zs_iconst (pc := 53) C dX9_asked_53 (by decide) ?_
            refine zs_goto (tgt := 58) (pc := 54) C dX9_asked_54 (by decide) ?_
            first | refine zs_iadd (pc := 58) C dX9_asked_58 (by omega) ?_ | refine zs_iaddF (pc := 58) C dX9_asked_58 (fun z58 hz581 hz582 => ?_)
            refine zs_istore_n (pc := 59) C dX9_asked_59 (by decide) ?_
            dsimp only [zset, zclr, znone]
            first | refine zs_iinc (pc := 60) C dX9_asked_60 rfl (by decide) (by omega) ?_ | refine zs_iincF (pc := 60) C dX9_asked_60 rfl (by decide) (fun z60 hz601 hz602 => ?_)
            dsimp only [zset, zclr, znone]
            refine zs_goto (tgt := 32) (pc := 63) C dX9_asked_63 (by decide) ?_
            exact zs_wk (ih32 _ _ (by omega) (by omega) (by omega) (by first | omega | (simp only [zuI_1, zuI_2, zuJ_1, zuJ_2, zuJ_3, zuP_1, zuP_2, zuP_3, zuC_1, zuC_2, reduceIte, Nat.reduceEqDiff, false_and, and_false, true_and, and_true, and_self, or_true, true_or, or_false, false_or]; omega))) (zwk_s rfl (zwk_s rfl (zwk_s rfl (zwk_s rfl (zwk_s rfl (zwk_n zwk_0))))))
    exact zs_wk (L32 _ _ _ (by omega) (by omega) rfl (Nat.lt_succ_self _)) (zwk_s rfl (zwk_s rfl (zwk_s rfl (zwk_s rfl (zwk_s rfl (zwk_n zwk_0))))))
  · skip
    refine zs_iload_n (pc := 21) C dX9_asked_21 rfl ?_
    refine zs_if_lt (tgt := 27) (pc := 22) C dX9_asked_22 (by decide) (fun h22 => ?_) (fun h22 => ?_)
    · skip
      refine zs_iconst (pc := 27) C dX9_asked_27 (by decide) ?_
      refine zs_istore_n (pc := 28) C dX9_asked_28 (by decide) ?_
      dsimp only [zset, zclr, znone]
      refine zs_iconst (pc := 29) C dX9_asked_29 (by decide) ?_
      refine zs_istore (pc := 30) C dX9_asked_30 (by decide) ?_
      dsimp only [zset, zclr, znone]
      have L32 : ∀ (nn : Nat) (x3 x4 : Int), (0 ≤ x4 ∧ x4 ≤ 4) → (x4 ≤ G.1 1012 w 0) → (x3 = zct (lfc Γ w G p0) x4.toNat) → (4 - x4).toNat < nn → Z p l e (zrm 2) s m args below meth c Γ 6 0 0 (MQ below (zQc Γ (zpi (fun x G' => zsm [] G G' ∧ (-1 ≤ x ∧ x ≤ 3)))) args s 0 0 (zA Γ)) 32 [some (zr 10 w), some (zi p0), some (zi x2), some (zi x3), some (zi x4), none] [] G9 := by
        intro nn
        induction nn with
        | zero => intro x3 x4 h32_0 h32_1 h32_2 hm; exact absurd hm (Nat.not_lt_zero _)
        | succ nn ih32 =>
          intro x3 x4 h32_0 h32_1 h32_2 hm32
          have hcz0 := zct_le (lfc Γ w G p0) x4.toNat
          refine zs_iload (pc := 32) C dX9_asked_32 rfl ?_
          refine zs_aload_n (pc := 34) C dX9_asked_34 rfl ?_
          refine zs_geti (r := 1012) (pc := 35) C dX9_asked_35 w_X9_258 f_10_12 rfl (r_1012 0) (fun v35 e35 l35 u35 => ?_)
          refine zs_icmp_ge (tgt := 66) (pc := 38) C dX9_asked_38 (by decide) (fun h38 => ?_) (fun h38 => ?_)
          · skip
            have hx4 : x4 = G.1 1012 w 0 := by omega
            rw [hx4] at h32_2
            have hcz := zct_le (lfc Γ w G p0) (G.1 1012 w 0).toNat
            refine zs_iload_n (pc := 66) C dX9_asked_66 rfl ?_
            refine zs_if_ne (tgt := 72) (pc := 67) C dX9_asked_67 (by decide) (fun h67 => ?_) (fun h67 => ?_)
            · skip
              refine zs_aload_n (pc := 72) C dX9_asked_72 rfl ?_
              refine zs_iload_n (pc := 73) C dX9_asked_73 rfl ?_
              refine zVi1 (pc := 74) C dX9_asked_74 v_X9_459 (c_X9_number1 hX (by omega)) (by decide) (by decide) ⟨Nat.zero_le _, Nat.zero_le _⟩ (Nat.le_of_ble_eq_true rfl) (fun x74 G74 l74 u74 hp74 => ?_)
              obtain ⟨hz74, hq74⟩ := hp74
              refine zs_istore (pc := 77) C dX9_asked_77 (by decide) ?_
              dsimp only [zset, zclr, znone]
              refine zs_iconst (pc := 79) C dX9_asked_79 (by decide) ?_
              refine zs_istore (pc := 80) C dX9_asked_80 (by decide) ?_
              dsimp only [zset, zclr, znone]
              have L82 : ∀ (nn : Nat) (x4 x5 : Int), (0 ≤ x5 ∧ x5 ≤ 4) → (0 ≤ x4) → (x4 < zct (lfc Γ w G p0) (G.1 1012 w 0).toNat - zct (lfc Γ w G p0) x5.toNat) → (5 - x5).toNat < nn → Z p l e (zrm 2) s m args below meth c Γ 6 0 0 (MQ below (zQc Γ (zpi (fun x G' => zsm [] G G' ∧ (-1 ≤ x ∧ x ≤ 3)))) args s 0 0 (zA Γ)) 82 [some (zr 10 w), some (zi p0), some (zi x2), none, some (zi x4), some (zi x5)] [] G74 := by
                intro nn
                induction nn with
                | zero => intro x4 x5 h82_0 h82_1 h82_2 hm; exact absurd hm (Nat.not_lt_zero _)
                | succ nn ih82 =>
                  intro x4 x5 h82_0 h82_1 h82_2 hm82
                  have hcz2 := zct_le (lfc Γ w G p0) x5.toNat
                  have hlt : x5 < G.1 1012 w 0 := by
                    rcases Int.lt_or_le x5 (G.1 1012 w 0) with q | q
                    · exact q
                    · have := zct_mono (lfc Γ w G p0) (n := (G.1 1012 w 0).toNat) (m := x5.toNat) (by omega)
                      omega
                  refine zs_aload_n (pc := 82) C dX9_asked_82 rfl ?_
                  refine zs_iconst (pc := 83) C dX9_asked_83 (by decide) ?_
                  refine zs_iload_n (pc := 84) C dX9_asked_84 rfl ?_
                  refine zs_iload (pc := 85) C dX9_asked_85 rfl ?_
                  refine zVip3 (pc := 87) C dX9_asked_87 v_X9_394 (c_X9_leftOf hX (by omega) (by omega) (by omega)) (by decide) (by decide) ⟨Nat.zero_le _, Nat.zero_le _⟩ (Nat.le_of_ble_eq_true rfl) (fun x87 l87 u87 hp87 => ?_)
                  have hq87 := hp87
                  have hc2 := lfc_at (Γ := Γ) (w := w) (G := G) (p := p0) (t := x5) (by omega) (zsm_tr hz9 hz74 |>.1 2081 (by decide)) (zsm_tr hz9 hz74 |>.1 2082 (by decide)) hq87
                  have hst2 := zct_step (x3 := zct (lfc Γ w G p0) x5.toNat) rfl (by omega) hc2
                  refine zs_if_gt (tgt := 98) (pc := 90) C dX9_asked_90 (by decide) (fun h90 => ?_) (fun h90 => ?_)
                  · skip
                    refine zs_iload (pc := 98) C dX9_asked_98 rfl ?_
                    refine zs_aload_n (pc := 100) C dX9_asked_100 rfl ?_
                    refine zs_iconst (pc := 101) C dX9_asked_101 (by decide) ?_
                    refine zs_iload_n (pc := 102) C dX9_asked_102 rfl ?_
                    refine zs_iload (pc := 103) C dX9_asked_103 rfl ?_
                    refine zVip3 (pc := 105) C dX9_asked_105 v_X9_394 (c_X9_leftOf hX (by omega) (by omega) (by omega)) (by decide) (by decide) ⟨Nat.zero_le _, Nat.zero_le _⟩ (Nat.le_of_ble_eq_true rfl) (fun x105 l105 u105 hp105 => ?_)
                    have hq105 := hp105
                    have hc3 := lfc_at (Γ := Γ) (w := w) (G := G) (p := p0) (t := x5) (by omega) (zsm_tr hz9 hz74 |>.1 2081 (by decide)) (zsm_tr hz9 hz74 |>.1 2082 (by decide)) hq105
                    have hst3 := zct_step (x3 := zct (lfc Γ w G p0) x5.toNat) rfl (by omega) hc3
                    have hsame : x105 = x87 := by rw [hq105, hq87]
                    refine zs_if_ne (tgt := 115) (pc := 108) C dX9_asked_108 (by decide) (fun h108 => ?_) (fun h108 => ?_)
                    · skip
                      refine zs_iconst (pc := 115) C dX9_asked_115 (by decide) ?_
                      first | refine zs_isub (pc := 116) C dX9_asked_116 (by omega) ?_ | refine zs_isubF (pc := 116) C dX9_asked_116 (fun z116 hz1161 hz1162 => ?_)
                      refine zs_istore (pc := 117) C dX9_asked_117 (by decide) ?_
                      dsimp only [zset, zclr, znone]
                      first | refine zs_iinc (pc := 119) C dX9_asked_119 rfl (by decide) (by omega) ?_ | refine zs_iincF (pc := 119) C dX9_asked_119 rfl (by decide) (fun z119 hz1191 hz1192 => ?_)
                      dsimp only [zset, zclr, znone]
                      refine zs_goto (tgt := 82) (pc := 122) C dX9_asked_122 (by decide) ?_
                      exact zs_wk (ih82 _ _ (by omega) (by omega) (by omega) (by first | omega | (simp only [zuI_1, zuI_2, zuJ_1, zuJ_2, zuJ_3, zuP_1, zuP_2, zuP_3, zuC_1, zuC_2, reduceIte, Nat.reduceEqDiff, false_and, and_false, true_and, and_true, and_self, or_true, true_or, or_false, false_or]; omega))) (zwk_s rfl (zwk_s rfl (zwk_s rfl (zwk_n (zwk_s rfl (zwk_s rfl zwk_0))))))
                    · skip
                      refine zs_iconst (pc := 111) C dX9_asked_111 (by decide) ?_
                      refine zs_goto (tgt := 116) (pc := 112) C dX9_asked_112 (by decide) ?_
                      first | refine zs_isub (pc := 116) C dX9_asked_116 (by omega) ?_ | refine zs_isubF (pc := 116) C dX9_asked_116 (fun z116 hz1161 hz1162 => ?_)
                      refine zs_istore (pc := 117) C dX9_asked_117 (by decide) ?_
                      dsimp only [zset, zclr, znone]
                      first | refine zs_iinc (pc := 119) C dX9_asked_119 rfl (by decide) (by omega) ?_ | refine zs_iincF (pc := 119) C dX9_asked_119 rfl (by decide) (fun z119 hz1191 hz1192 => ?_)
                      dsimp only [zset, zclr, znone]
                      refine zs_goto (tgt := 82) (pc := 122) C dX9_asked_122 (by decide) ?_
                      exact zs_wk (ih82 _ _ (by omega) (by omega) (by omega) (by first | omega | (simp only [zuI_1, zuI_2, zuJ_1, zuJ_2, zuJ_3, zuP_1, zuP_2, zuP_3, zuC_1, zuC_2, reduceIte, Nat.reduceEqDiff, false_and, and_false, true_and, and_true, and_self, or_true, true_or, or_false, false_or]; omega))) (zwk_s rfl (zwk_s rfl (zwk_s rfl (zwk_n (zwk_s rfl (zwk_s rfl zwk_0))))))
                  · skip
                    refine zs_iload (pc := 93) C dX9_asked_93 rfl ?_
                    refine zs_if_le (tgt := 125) (pc := 95) C dX9_asked_95 (by decide) (fun h95 => ?_) (fun h95 => ?_)
                    · skip
                      refine zs_iload (pc := 125) C dX9_asked_125 rfl ?_
                      exact zs_iret (pc := 127) C hr hlk dX9_asked_127 ⟨by repeat (first | exact zsm_rf | assumption | refine zsm_C (by decide) ?_ | refine zsm_I (by decide) ?_ | refine zsm_J ?_ | refine zsm_c (by assumption) (by decide) ?_), by first | omega | (simp only [zuI_1, zuI_2, zuJ_1, zuJ_2, zuJ_3, zuP_1, zuP_2, zuP_3, zuC_1, zuC_2, reduceIte, Nat.reduceEqDiff, false_and, and_false, true_and, and_true, and_self, or_true, true_or, or_false, false_or]; omega)⟩
                    · skip
                      refine zs_iload (pc := 98) C dX9_asked_98 rfl ?_
                      refine zs_aload_n (pc := 100) C dX9_asked_100 rfl ?_
                      refine zs_iconst (pc := 101) C dX9_asked_101 (by decide) ?_
                      refine zs_iload_n (pc := 102) C dX9_asked_102 rfl ?_
                      refine zs_iload (pc := 103) C dX9_asked_103 rfl ?_
                      refine zVip3 (pc := 105) C dX9_asked_105 v_X9_394 (c_X9_leftOf hX (by omega) (by omega) (by omega)) (by decide) (by decide) ⟨Nat.zero_le _, Nat.zero_le _⟩ (Nat.le_of_ble_eq_true rfl) (fun x105 l105 u105 hp105 => ?_)
                      have hq105 := hp105
                      have hc3 := lfc_at (Γ := Γ) (w := w) (G := G) (p := p0) (t := x5) (by omega) (zsm_tr hz9 hz74 |>.1 2081 (by decide)) (zsm_tr hz9 hz74 |>.1 2082 (by decide)) hq105
                      have hst3 := zct_step (x3 := zct (lfc Γ w G p0) x5.toNat) rfl (by omega) hc3
                      have hsame : x105 = x87 := by rw [hq105, hq87]
                      refine zs_if_ne (tgt := 115) (pc := 108) C dX9_asked_108 (by decide) (fun h108 => ?_) (fun h108 => ?_)
                      · skip
                        refine zs_iconst (pc := 115) C dX9_asked_115 (by decide) ?_
                        first | refine zs_isub (pc := 116) C dX9_asked_116 (by omega) ?_ | refine zs_isubF (pc := 116) C dX9_asked_116 (fun z116 hz1161 hz1162 => ?_)
                        refine zs_istore (pc := 117) C dX9_asked_117 (by decide) ?_
                        dsimp only [zset, zclr, znone]
                        first | refine zs_iinc (pc := 119) C dX9_asked_119 rfl (by decide) (by omega) ?_ | refine zs_iincF (pc := 119) C dX9_asked_119 rfl (by decide) (fun z119 hz1191 hz1192 => ?_)
                        dsimp only [zset, zclr, znone]
                        refine zs_goto (tgt := 82) (pc := 122) C dX9_asked_122 (by decide) ?_
                        exact zs_wk (ih82 _ _ (by omega) (by omega) (by omega) (by first | omega | (simp only [zuI_1, zuI_2, zuJ_1, zuJ_2, zuJ_3, zuP_1, zuP_2, zuP_3, zuC_1, zuC_2, reduceIte, Nat.reduceEqDiff, false_and, and_false, true_and, and_true, and_self, or_true, true_or, or_false, false_or]; omega))) (zwk_s rfl (zwk_s rfl (zwk_s rfl (zwk_n (zwk_s rfl (zwk_s rfl zwk_0))))))
                      · skip
                        refine zs_iconst (pc := 111) C dX9_asked_111 (by decide) ?_
                        refine zs_goto (tgt := 116) (pc := 112) C dX9_asked_112 (by decide) ?_
                        first | refine zs_isub (pc := 116) C dX9_asked_116 (by omega) ?_ | refine zs_isubF (pc := 116) C dX9_asked_116 (fun z116 hz1161 hz1162 => ?_)
                        refine zs_istore (pc := 117) C dX9_asked_117 (by decide) ?_
                        dsimp only [zset, zclr, znone]
                        first | refine zs_iinc (pc := 119) C dX9_asked_119 rfl (by decide) (by omega) ?_ | refine zs_iincF (pc := 119) C dX9_asked_119 rfl (by decide) (fun z119 hz1191 hz1192 => ?_)
                        dsimp only [zset, zclr, znone]
                        refine zs_goto (tgt := 82) (pc := 122) C dX9_asked_122 (by decide) ?_
                        exact zs_wk (ih82 _ _ (by omega) (by omega) (by omega) (by first | omega | (simp only [zuI_1, zuI_2, zuJ_1, zuJ_2, zuJ_3, zuP_1, zuP_2, zuP_3, zuC_1, zuC_2, reduceIte, Nat.reduceEqDiff, false_and, and_false, true_and, and_true, and_self, or_true, true_or, or_false, false_or]; omega))) (zwk_s rfl (zwk_s rfl (zwk_s rfl (zwk_n (zwk_s rfl (zwk_s rfl zwk_0))))))
              exact zs_wk (L82 _ _ _ (by omega) (by omega) (by rw [show (0 : Int).toNat = 0 from rfl, zct_0]; omega) (Nat.lt_succ_self _)) (zwk_s rfl (zwk_s rfl (zwk_s rfl (zwk_n (zwk_s rfl (zwk_s rfl zwk_0))))))
            · skip
              refine zs_iconst (pc := 70) C dX9_asked_70 (by decide) ?_
              exact zs_iret (pc := 71) C hr hlk dX9_asked_71 ⟨by repeat (first | exact zsm_rf | assumption | refine zsm_C (by decide) ?_ | refine zsm_I (by decide) ?_ | refine zsm_J ?_ | refine zsm_c (by assumption) (by decide) ?_), by first | omega | (simp only [zuI_1, zuI_2, zuJ_1, zuJ_2, zuJ_3, zuP_1, zuP_2, zuP_3, zuC_1, zuC_2, reduceIte, Nat.reduceEqDiff, false_and, and_false, true_and, and_true, and_self, or_true, true_or, or_false, false_or]; omega)⟩
          · skip
            refine zs_iload_n (pc := 41) C dX9_asked_41 rfl ?_
            refine zs_aload_n (pc := 42) C dX9_asked_42 rfl ?_
            refine zs_iconst (pc := 43) C dX9_asked_43 (by decide) ?_
            refine zs_iload_n (pc := 44) C dX9_asked_44 rfl ?_
            refine zs_iload (pc := 45) C dX9_asked_45 rfl ?_
            refine zVip3 (pc := 47) C dX9_asked_47 v_X9_394 (c_X9_leftOf hX (by omega) (by omega) (by omega)) (by decide) (by decide) ⟨Nat.zero_le _, Nat.zero_le _⟩ (Nat.le_of_ble_eq_true rfl) (fun x47 l47 u47 hp47 => ?_)
            have hq47 := hp47
            have hc := lfc_at (Γ := Γ) (w := w) (G := G) (p := p0) (t := x4) h32_0.1 (hz9.1 2081 (by decide)) (hz9.1 2082 (by decide)) hq47
            have hst := zct_step h32_2 h32_0.1 hc
            refine zs_if_ne (tgt := 57) (pc := 50) C dX9_asked_50 (by decide) (fun h50 => ?_) (fun h50 => ?_)
            · skip
              refine zs_iconst (pc := 57) C dX9_asked_57 (by decide) ?_
              first | refine zs_iadd (pc := 58) C dX9_asked_58 (by omega) ?_ | refine zs_iaddF (pc := 58) C dX9_asked_58 (fun z58 hz581 hz582 => ?_)
              refine zs_istore_n (pc := 59) C dX9_asked_59 (by decide) ?_
              dsimp only [zset, zclr, znone]
              first | refine zs_iinc (pc := 60) C dX9_asked_60 rfl (by decide) (by omega) ?_ | refine zs_iincF (pc := 60) C dX9_asked_60 rfl (by decide) (fun z60 hz601 hz602 => ?_)
              dsimp only [zset, zclr, znone]
              refine zs_goto (tgt := 32) (pc := 63) C dX9_asked_63 (by decide) ?_
              exact zs_wk (ih32 _ _ (by omega) (by omega) (by omega) (by first | omega | (simp only [zuI_1, zuI_2, zuJ_1, zuJ_2, zuJ_3, zuP_1, zuP_2, zuP_3, zuC_1, zuC_2, reduceIte, Nat.reduceEqDiff, false_and, and_false, true_and, and_true, and_self, or_true, true_or, or_false, false_or]; omega))) (zwk_s rfl (zwk_s rfl (zwk_s rfl (zwk_s rfl (zwk_s rfl (zwk_n zwk_0))))))
            · skip
              refine zs_iconst (pc := 53) C dX9_asked_53 (by decide) ?_
              refine zs_goto (tgt := 58) (pc := 54) C dX9_asked_54 (by decide) ?_
              first | refine zs_iadd (pc := 58) C dX9_asked_58 (by omega) ?_ | refine zs_iaddF (pc := 58) C dX9_asked_58 (fun z58 hz581 hz582 => ?_)
              refine zs_istore_n (pc := 59) C dX9_asked_59 (by decide) ?_
              dsimp only [zset, zclr, znone]
              first | refine zs_iinc (pc := 60) C dX9_asked_60 rfl (by decide) (by omega) ?_ | refine zs_iincF (pc := 60) C dX9_asked_60 rfl (by decide) (fun z60 hz601 hz602 => ?_)
              dsimp only [zset, zclr, znone]
              refine zs_goto (tgt := 32) (pc := 63) C dX9_asked_63 (by decide) ?_
              exact zs_wk (ih32 _ _ (by omega) (by omega) (by omega) (by first | omega | (simp only [zuI_1, zuI_2, zuJ_1, zuJ_2, zuJ_3, zuP_1, zuP_2, zuP_3, zuC_1, zuC_2, reduceIte, Nat.reduceEqDiff, false_and, and_false, true_and, and_true, and_self, or_true, true_or, or_false, false_or]; omega))) (zwk_s rfl (zwk_s rfl (zwk_s rfl (zwk_s rfl (zwk_s rfl (zwk_n zwk_0))))))
      exact zs_wk (L32 _ _ _ (by omega) (by omega) rfl (Nat.lt_succ_self _)) (zwk_s rfl (zwk_s rfl (zwk_s rfl (zwk_s rfl (zwk_s rfl (zwk_n zwk_0))))))
    · skip
      refine zs_iload_n (pc := 25) C dX9_asked_25 rfl ?_
      exact zs_iret (pc := 26) C hr hlk dX9_asked_26 ⟨by repeat (first | exact zsm_rf | assumption | refine zsm_C (by decide) ?_ | refine zsm_I (by decide) ?_ | refine zsm_J ?_ | refine zsm_c (by assumption) (by decide) ?_), by first | omega | (simp only [zuI_1, zuI_2, zuJ_1, zuJ_2, zuJ_3, zuP_1, zuP_2, zuP_3, zuC_1, zuC_2, reduceIte, Nat.reduceEqDiff, false_and, and_false, true_and, and_true, and_self, or_true, true_or, or_false, false_or]; omega)⟩

set_option maxHeartbeats 4000000 in
set_option maxRecDepth 100000 in
theorem c_X9_lies {l : Launch} {Γ : zΓ} {G : zH} {w : Nat} {a p0 k : Int} (hX : zXs Γ)  : zMet l Γ yX9_lies cX9_lies 9 (some .int) 3 [zr 10 w, zi a, zi p0, zi k] G (zpi (fun x G' => zsm [1002] G G' ∧ True)) := by
  refine zMet_of RX9 hX (by decide) rfl (Nat.le_of_ble_eq_true rfl) ?_
  intro p e s m args below meth c C hr hlk
  show Z p l e (zrm 3) s m args below meth c Γ 9 0 0 (MQ below (zQc Γ (zpi (fun x G' => zsm [1002] G G' ∧ True))) args s 0 0 (zA Γ)) 0 [some (zr 10 w), some (zi a), some (zi p0), some (zi k), none, none, none, none, none] [] G
  refine zs_loc 1 rfl (fun ha1 hb1 => ?_)
  refine zs_loc 2 rfl (fun ha2 hb2 => ?_)
  refine zs_loc 3 rfl (fun ha3 hb3 => ?_)
  refine zs_aload_n (pc := 0) C dX9_lies_0 rfl ?_
  refine zs_iconst (pc := 1) C dX9_lies_1 (by decide) ?_
  refine zs_puti (r := 1002) (pc := 2) C dX9_lies_2 w_X9_178 f_10_2 rfl (r_1002 0) (by omega) ?_
  refine zs_iload_n (pc := 5) C dX9_lies_5 rfl ?_
  refine zs_if_lt (tgt := 27) (pc := 6) C dX9_lies_6 (by decide) (fun h6 => ?_) (fun h6 => ?_)
  · skip
    refine zs_iconst (pc := 27) C dX9_lies_27 (by decide) ?_
    exact zs_iret (pc := 28) C hr hlk dX9_lies_28 ⟨by repeat (first | exact zsm_rf | assumption | refine zsm_C (by decide) ?_ | refine zsm_I (by decide) ?_ | refine zsm_J ?_ | refine zsm_c (by assumption) (by decide) ?_), trivial⟩
  · skip
    refine zs_aload_n (pc := 9) C dX9_lies_9 rfl ?_
    refine zs_iload_n (pc := 10) C dX9_lies_10 rfl ?_
    refine zVip1 (pc := 11) C dX9_lies_11 v_X9_398 (c_X9_isPerson hX ) (by decide) (by decide) ⟨Nat.zero_le _, Nat.zero_le _⟩ (Nat.le_of_ble_eq_true rfl) (fun x11 l11 u11 hp11 => ?_)
    have hq11 := hp11
    try simp only [zuI_1, zuI_2, zuJ_1, zuJ_2, zuJ_3, zuP_1, zuP_2, zuP_3, zuC_1, zuC_2, reduceIte, Nat.reduceEqDiff, false_and, and_false, true_and, and_true, and_self, or_true, true_or, or_false, false_or] at hq11
    refine zs_if_eq (tgt := 27) (pc := 14) C dX9_lies_14 (by decide) (fun h14 => ?_) (fun h14 => ?_)
    · skip
      refine zs_iconst (pc := 27) C dX9_lies_27 (by decide) ?_
      exact zs_iret (pc := 28) C hr hlk dX9_lies_28 ⟨by repeat (first | exact zsm_rf | assumption | refine zsm_C (by decide) ?_ | refine zsm_I (by decide) ?_ | refine zsm_J ?_ | refine zsm_c (by assumption) (by decide) ?_), trivial⟩
    · skip
      refine zs_iload_n (pc := 17) C dX9_lies_17 rfl ?_
      refine zs_iconst (pc := 18) C dX9_lies_18 (by decide) ?_
      refine zs_bipush (pc := 19) C dX9_lies_19 (by decide) (by decide) ?_
      refine zSip3 (pc := 21) C dX9_lies_21 s_X9_223 (c_X9_isIn hX ) (by decide) ⟨Nat.zero_le _, Nat.zero_le _⟩ (Nat.le_of_ble_eq_true rfl) (fun x21 l21 u21 hp21 => ?_)
      have hq21 := hp21
      try simp only [zuI_1, zuI_2, zuJ_1, zuJ_2, zuJ_3, zuP_1, zuP_2, zuP_3, zuC_1, zuC_2, reduceIte, Nat.reduceEqDiff, false_and, and_false, true_and, and_true, and_self, or_true, true_or, or_false, false_or] at hq21
      refine zs_if_ne (tgt := 29) (pc := 24) C dX9_lies_24 (by decide) (fun h24 => ?_) (fun h24 => ?_)
      · skip
        refine zs_aload_n (pc := 29) C dX9_lies_29 rfl ?_
        refine zs_getj (r := 1061) (pc := 30) C dX9_lies_30 w_X9_375 f_10_61 rfl (fun v30 e30 l30 u30 => ?_)
        try simp only [zuI_1, zuI_2, zuJ_1, zuJ_2, zuJ_3, zuP_1, zuP_2, zuP_3, zuC_1, zuC_2, reduceIte, Nat.reduceEqDiff, false_and, and_false, true_and, and_true, and_self, or_true, true_or, or_false, false_or] at e30
        refine zs_lstore (pc := 33) C dX9_lies_33 (by decide) ?_
        dsimp only [zset, zclr, znone]
        refine zs_aload_n (pc := 35) C dX9_lies_35 rfl ?_
        refine zs_iload_n (pc := 36) C dX9_lies_36 rfl ?_
        refine zs_i2l (pc := 37) C dX9_lies_37 ?_
        refine zs_putj (r := 1061) (pc := 38) C dX9_lies_38 w_X9_375 f_10_61 rfl ?_
        refine zs_iconst (pc := 41) C dX9_lies_41 (by decide) ?_
        refine zs_istore (pc := 42) C dX9_lies_42 (by decide) ?_
        dsimp only [zset, zclr, znone]
        refine zs_iconst (pc := 44) C dX9_lies_44 (by decide) ?_
        refine zs_istore (pc := 45) C dX9_lies_45 (by decide) ?_
        dsimp only [zset, zclr, znone]
        have L47 : ∀ (nn : Nat) (x6 x7 : Int) (G1 : zH), (0 ≤ x7 ∧ x7 ≤ 40) → (zsm [1002] G G1) → (40 - x7).toNat < nn → Z p l e (zrm 3) s m args below meth c Γ 9 0 0 (MQ below (zQc Γ (zpi (fun x G' => zsm [1002] G G' ∧ True))) args s 0 0 (zA Γ)) 47 [some (zr 10 w), some (zi a), some (zi p0), some (zi k), some (zj v30), none, some (zi x6), some (zi x7), none] [] G1 := by
          intro nn
          induction nn with
          | zero => intro x6 x7 G1 h47_0 h47_1 hm; exact absurd hm (Nat.not_lt_zero _)
          | succ nn ih47 =>
            intro x6 x7 G1 h47_0 h47_1 hm47
            refine zs_iload (pc := 47) C dX9_lies_47 rfl ?_
            refine zs_iload_n (pc := 49) C dX9_lies_49 rfl ?_
            refine zs_icmp_ge (tgt := 92) (pc := 50) C dX9_lies_50 (by decide) (fun h50 => ?_) (fun h50 => ?_)
            · skip
              refine zs_aload_n (pc := 92) C dX9_lies_92 rfl ?_
              refine zs_lload (pc := 93) C dX9_lies_93 rfl ?_
              refine zs_putj (r := 1061) (pc := 95) C dX9_lies_95 w_X9_375 f_10_61 rfl ?_
              refine zs_iload (pc := 98) C dX9_lies_98 rfl ?_
              exact zs_iret (pc := 100) C hr hlk dX9_lies_100 ⟨by repeat (first | exact zsm_rf | assumption | refine zsm_C (by decide) ?_ | refine zsm_I (by decide) ?_ | refine zsm_J ?_ | refine zsm_c (by assumption) (by decide) ?_), trivial⟩
            · skip
              refine zs_aload_n (pc := 53) C dX9_lies_53 rfl ?_
              refine zs_iload_n (pc := 54) C dX9_lies_54 rfl ?_
              refine zVi1 (pc := 55) C dX9_lies_55 v_X9_462 (c_X9_asked hX (by omega)) (by decide) (by decide) ⟨Nat.zero_le _, Nat.zero_le _⟩ (Nat.le_of_ble_eq_true rfl) (fun x55 G55 l55 u55 hp55 => ?_)
              obtain ⟨hz55, hq55⟩ := hp55
              refine zs_istore (pc := 58) C dX9_lies_58 (by decide) ?_
              dsimp only [zset, zclr, znone]
              refine zs_iload (pc := 60) C dX9_lies_60 rfl ?_
              refine zs_iload (pc := 62) C dX9_lies_62 rfl ?_
              refine zs_if_lt (tgt := 82) (pc := 64) C dX9_lies_64 (by decide) (fun h64 => ?_) (fun h64 => ?_)
              · skip
                refine zs_iconst (pc := 82) C dX9_lies_82 (by decide) ?_
                first | refine zs_iadd (pc := 83) C dX9_lies_83 (by omega) ?_ | refine zs_iaddF (pc := 83) C dX9_lies_83 (fun z83 hz831 hz832 => ?_)
                refine zs_istore (pc := 84) C dX9_lies_84 (by decide) ?_
                dsimp only [zset, zclr, znone]
                first | refine zs_iinc (pc := 86) C dX9_lies_86 rfl (by decide) (by omega) ?_ | refine zs_iincF (pc := 86) C dX9_lies_86 rfl (by decide) (fun z86 hz861 hz862 => ?_)
                dsimp only [zset, zclr, znone]
                refine zs_goto (tgt := 47) (pc := 89) C dX9_lies_89 (by decide) ?_
                exact zs_wk (ih47 _ _ _ (by first | omega | (simp only [zuI_1, zuI_2, zuJ_1, zuJ_2, zuJ_3, zuP_1, zuP_2, zuP_3, zuC_1, zuC_2, reduceIte, Nat.reduceEqDiff, false_and, and_false, true_and, and_true, and_self, or_true, true_or, or_false, false_or]; omega)) (by repeat (first | exact zsm_rf | assumption | refine zsm_C (by decide) ?_ | refine zsm_I (by decide) ?_ | refine zsm_J ?_ | refine zsm_c (by assumption) (by decide) ?_)) (by first | omega | (simp only [zuI_1, zuI_2, zuJ_1, zuJ_2, zuJ_3, zuP_1, zuP_2, zuP_3, zuC_1, zuC_2, reduceIte, Nat.reduceEqDiff, false_and, and_false, true_and, and_true, and_self, or_true, true_or, or_false, false_or]; omega))) (zwk_s rfl (zwk_s rfl (zwk_s rfl (zwk_s rfl (zwk_s rfl (zwk_n (zwk_s rfl (zwk_s rfl (zwk_n zwk_0)))))))))
              · skip
                refine zs_aload_n (pc := 67) C dX9_lies_67 rfl ?_
                refine zs_iconst (pc := 68) C dX9_lies_68 (by decide) ?_
                refine zs_iload_n (pc := 69) C dX9_lies_69 rfl ?_
                refine zs_iload (pc := 70) C dX9_lies_70 rfl ?_
                refine zVip3 (pc := 72) C dX9_lies_72 v_X9_394 (c_X9_leftOf hX (by omega) (by omega) (by omega)) (by decide) (by decide) ⟨Nat.zero_le _, Nat.zero_le _⟩ (Nat.le_of_ble_eq_true rfl) (fun x72 l72 u72 hp72 => ?_)
                have hq72 := hp72
                refine zs_if_ne (tgt := 82) (pc := 75) C dX9_lies_75 (by decide) (fun h75 => ?_) (fun h75 => ?_)
                · skip
                  refine zs_iconst (pc := 82) C dX9_lies_82 (by decide) ?_
                  first | refine zs_iadd (pc := 83) C dX9_lies_83 (by omega) ?_ | refine zs_iaddF (pc := 83) C dX9_lies_83 (fun z83 hz831 hz832 => ?_)
                  refine zs_istore (pc := 84) C dX9_lies_84 (by decide) ?_
                  dsimp only [zset, zclr, znone]
                  first | refine zs_iinc (pc := 86) C dX9_lies_86 rfl (by decide) (by omega) ?_ | refine zs_iincF (pc := 86) C dX9_lies_86 rfl (by decide) (fun z86 hz861 hz862 => ?_)
                  dsimp only [zset, zclr, znone]
                  refine zs_goto (tgt := 47) (pc := 89) C dX9_lies_89 (by decide) ?_
                  exact zs_wk (ih47 _ _ _ (by first | omega | (simp only [zuI_1, zuI_2, zuJ_1, zuJ_2, zuJ_3, zuP_1, zuP_2, zuP_3, zuC_1, zuC_2, reduceIte, Nat.reduceEqDiff, false_and, and_false, true_and, and_true, and_self, or_true, true_or, or_false, false_or]; omega)) (by repeat (first | exact zsm_rf | assumption | refine zsm_C (by decide) ?_ | refine zsm_I (by decide) ?_ | refine zsm_J ?_ | refine zsm_c (by assumption) (by decide) ?_)) (by first | omega | (simp only [zuI_1, zuI_2, zuJ_1, zuJ_2, zuJ_3, zuP_1, zuP_2, zuP_3, zuC_1, zuC_2, reduceIte, Nat.reduceEqDiff, false_and, and_false, true_and, and_true, and_self, or_true, true_or, or_false, false_or]; omega))) (zwk_s rfl (zwk_s rfl (zwk_s rfl (zwk_s rfl (zwk_s rfl (zwk_n (zwk_s rfl (zwk_s rfl (zwk_n zwk_0)))))))))
                · skip
                  refine zs_iconst (pc := 78) C dX9_lies_78 (by decide) ?_
                  refine zs_goto (tgt := 83) (pc := 79) C dX9_lies_79 (by decide) ?_
                  first | refine zs_iadd (pc := 83) C dX9_lies_83 (by omega) ?_ | refine zs_iaddF (pc := 83) C dX9_lies_83 (fun z83 hz831 hz832 => ?_)
                  refine zs_istore (pc := 84) C dX9_lies_84 (by decide) ?_
                  dsimp only [zset, zclr, znone]
                  first | refine zs_iinc (pc := 86) C dX9_lies_86 rfl (by decide) (by omega) ?_ | refine zs_iincF (pc := 86) C dX9_lies_86 rfl (by decide) (fun z86 hz861 hz862 => ?_)
                  dsimp only [zset, zclr, znone]
                  refine zs_goto (tgt := 47) (pc := 89) C dX9_lies_89 (by decide) ?_
                  exact zs_wk (ih47 _ _ _ (by first | omega | (simp only [zuI_1, zuI_2, zuJ_1, zuJ_2, zuJ_3, zuP_1, zuP_2, zuP_3, zuC_1, zuC_2, reduceIte, Nat.reduceEqDiff, false_and, and_false, true_and, and_true, and_self, or_true, true_or, or_false, false_or]; omega)) (by repeat (first | exact zsm_rf | assumption | refine zsm_C (by decide) ?_ | refine zsm_I (by decide) ?_ | refine zsm_J ?_ | refine zsm_c (by assumption) (by decide) ?_)) (by first | omega | (simp only [zuI_1, zuI_2, zuJ_1, zuJ_2, zuJ_3, zuP_1, zuP_2, zuP_3, zuC_1, zuC_2, reduceIte, Nat.reduceEqDiff, false_and, and_false, true_and, and_true, and_self, or_true, true_or, or_false, false_or]; omega))) (zwk_s rfl (zwk_s rfl (zwk_s rfl (zwk_s rfl (zwk_s rfl (zwk_n (zwk_s rfl (zwk_s rfl (zwk_n zwk_0)))))))))
        exact zs_wk (L47 _ _ _ _ (by first | omega | (simp only [zuI_1, zuI_2, zuJ_1, zuJ_2, zuJ_3, zuP_1, zuP_2, zuP_3, zuC_1, zuC_2, reduceIte, Nat.reduceEqDiff, false_and, and_false, true_and, and_true, and_self, or_true, true_or, or_false, false_or]; omega)) (by repeat (first | exact zsm_rf | assumption | refine zsm_C (by decide) ?_ | refine zsm_I (by decide) ?_ | refine zsm_J ?_ | refine zsm_c (by assumption) (by decide) ?_)) (Nat.lt_succ_self _)) (zwk_s rfl (zwk_s rfl (zwk_s rfl (zwk_s rfl (zwk_s rfl (zwk_n (zwk_s rfl (zwk_s rfl (zwk_n zwk_0)))))))))
      · skip
        refine zs_iconst (pc := 27) C dX9_lies_27 (by decide) ?_
        exact zs_iret (pc := 28) C hr hlk dX9_lies_28 ⟨by repeat (first | exact zsm_rf | assumption | refine zsm_C (by decide) ?_ | refine zsm_I (by decide) ?_ | refine zsm_J ?_ | refine zsm_c (by assumption) (by decide) ?_), trivial⟩

set_option maxHeartbeats 4000000 in
set_option maxRecDepth 100000 in
theorem c_X9_canBake {l : Launch} {Γ : zΓ} {G : zH} {w : Nat} {b0 c0 : Int} (hX : zXs Γ) (hb : b0 = 0 ∨ b0 = 1)(hc : 0 ≤ c0 ∧ c0 ≤ 4) : zMet l Γ yX9_canBake cX9_canBake 3 (some .boolean) 1 [zr 10 w, zi b0, zi c0] G (zpi (fun x G' => G' = G ∧ ((x = 0 ∨ x = 1) ∧ (x = 1 → G.1 2068 (Γ.2.1 w 31) c0.toNat ≤ zfl (G.1 2093 (Γ.2.1 w 64)) (G.1 2094 (Γ.2.1 w 65)) (G.1 2067 (Γ.2.1 w 30) c0.toNat) (60 * b0).toNat (G.1 2087 (Γ.2.1 w 57) b0.toNat).toNat)))) := by
  refine zMet_of RX9 hX (by decide) rfl (Nat.le_of_ble_eq_true rfl) ?_
  intro p e s m args below meth c C hr hlk
  show Z p l e (zrm 1) s m args below meth c Γ 3 0 0 (MQ below (zQc Γ (zpi (fun x G' => G' = G ∧ ((x = 0 ∨ x = 1) ∧ (x = 1 → G.1 2068 (Γ.2.1 w 31) c0.toNat ≤ zfl (G.1 2093 (Γ.2.1 w 64)) (G.1 2094 (Γ.2.1 w 65)) (G.1 2067 (Γ.2.1 w 30) c0.toNat) (60 * b0).toNat (G.1 2087 (Γ.2.1 w 57) b0.toNat).toNat))))) args s 0 0 (zA Γ)) 0 [some (zr 10 w), some (zi b0), some (zi c0)] [] G
  refine zs_loc 1 rfl (fun ha1 hb1 => ?_)
  refine zs_loc 2 rfl (fun ha2 hb2 => ?_)
  refine zs_aload_n (pc := 0) C dX9_canBake_0 rfl ?_
  refine zs_getf (pc := 1) C dX9_canBake_1 w_X9_103 f_10_56 (by decide) ?_
  refine zs_iconst (pc := 4) C dX9_canBake_4 (by decide) ?_
  refine zs_iload_n (pc := 5) C dX9_canBake_5 rfl ?_
  first | refine zs_imul (pc := 6) C dX9_canBake_6 (by omega) ?_ | refine zs_imulF (pc := 6) C dX9_canBake_6 (fun z6 hz61 hz62 => ?_)
  refine zs_iload_n (pc := 7) C dX9_canBake_7 rfl ?_
  first | refine zs_iadd (pc := 8) C dX9_canBake_8 (by omega) ?_ | refine zs_iaddF (pc := 8) C dX9_canBake_8 (fun z8 hz81 hz82 => ?_)
  refine zs_iald (r := 2086) (pc := 9) C dX9_canBake_9 a_86 (by decide) (by omega) rfl (r_2086 _) (fun v9 e9 l9 u9 => ?_)
  refine zs_if_ge (tgt := 52) (pc := 10) C dX9_canBake_10 (by decide) (fun h10 => ?_) (fun h10 => ?_)
  · skip
    refine zs_iconst (pc := 52) C dX9_canBake_52 (by decide) ?_
    exact zs_zret (pc := 53) C hr hlk dX9_canBake_53 (by omega) ⟨rfl, by first | omega | (simp only [zuI_1, zuI_2, zuJ_1, zuJ_2, zuJ_3, zuP_1, zuP_2, zuP_3, zuC_1, zuC_2, reduceIte, Nat.reduceEqDiff, false_and, and_false, true_and, and_true, and_self, or_true, true_or, or_false, false_or]; omega)⟩
  · skip
    refine zs_aload_n (pc := 13) C dX9_canBake_13 rfl ?_
    refine zs_getf (pc := 14) C dX9_canBake_14 w_X9_115 f_10_60 (by decide) ?_
    refine zs_iload_n (pc := 17) C dX9_canBake_17 rfl ?_
    refine zs_iald (r := 2090) (pc := 18) C dX9_canBake_18 a_90 (by decide) (by omega) rfl (r_2090 _) (fun v18 e18 l18 u18 => ?_)
    refine zs_aload_n (pc := 19) C dX9_canBake_19 rfl ?_
    refine zs_getf (pc := 20) C dX9_canBake_20 w_X9_51 f_10_32 (by decide) ?_
    refine zs_iload_n (pc := 23) C dX9_canBake_23 rfl ?_
    refine zs_iald (r := 2069) (pc := 24) C dX9_canBake_24 a_69 (by decide) (by omega) rfl (r_2069 _) (fun v24 e24 l24 u24 => ?_)
    refine zs_icmp_gt (tgt := 52) (pc := 25) C dX9_canBake_25 (by decide) (fun h25 => ?_) (fun h25 => ?_)
    · skip
      refine zs_iconst (pc := 52) C dX9_canBake_52 (by decide) ?_
      exact zs_zret (pc := 53) C hr hlk dX9_canBake_53 (by omega) ⟨rfl, by first | omega | (simp only [zuI_1, zuI_2, zuJ_1, zuJ_2, zuJ_3, zuP_1, zuP_2, zuP_3, zuC_1, zuC_2, reduceIte, Nat.reduceEqDiff, false_and, and_false, true_and, and_true, and_self, or_true, true_or, or_false, false_or]; omega)⟩
    · skip
      refine zs_aload_n (pc := 28) C dX9_canBake_28 rfl ?_
      refine zs_iload_n (pc := 29) C dX9_canBake_29 rfl ?_
      refine zs_aload_n (pc := 30) C dX9_canBake_30 rfl ?_
      refine zs_getf (pc := 31) C dX9_canBake_31 w_X9_45 f_10_30 (by decide) ?_
      refine zs_iload_n (pc := 34) C dX9_canBake_34 rfl ?_
      refine zs_iald (r := 2067) (pc := 35) C dX9_canBake_35 a_67 (by decide) (by omega) rfl (r_2067 _) (fun v35 e35 l35 u35 => ?_)
      refine zVip2 (pc := 36) C dX9_canBake_36 v_X9_468 (c_X9_flourOf hX (by omega)) (by decide) (by decide) ⟨Nat.zero_le _, Nat.zero_le _⟩ (Nat.le_of_ble_eq_true rfl) (fun x36 l36 u36 hp36 => ?_)
      have hq36 := hp36
      refine zs_aload_n (pc := 39) C dX9_canBake_39 rfl ?_
      refine zs_getf (pc := 40) C dX9_canBake_40 w_X9_48 f_10_31 (by decide) ?_
      refine zs_iload_n (pc := 43) C dX9_canBake_43 rfl ?_
      refine zs_iald (r := 2068) (pc := 44) C dX9_canBake_44 a_68 (by decide) (by omega) rfl (r_2068 _) (fun v44 e44 l44 u44 => ?_)
      rw [e35] at hq36
      refine zs_icmp_lt (tgt := 52) (pc := 45) C dX9_canBake_45 (by decide) (fun h45 => ?_) (fun h45 => ?_)
      · skip
        refine zs_iconst (pc := 52) C dX9_canBake_52 (by decide) ?_
        exact zs_zret (pc := 53) C hr hlk dX9_canBake_53 (by omega) ⟨rfl, by first | omega | (simp only [zuI_1, zuI_2, zuJ_1, zuJ_2, zuJ_3, zuP_1, zuP_2, zuP_3, zuC_1, zuC_2, reduceIte, Nat.reduceEqDiff, false_and, and_false, true_and, and_true, and_self, or_true, true_or, or_false, false_or]; omega)⟩
      · skip
        refine zs_iconst (pc := 48) C dX9_canBake_48 (by decide) ?_
        refine zs_goto (tgt := 53) (pc := 49) C dX9_canBake_49 (by decide) ?_
        exact zs_zret (pc := 53) C hr hlk dX9_canBake_53 (by omega) ⟨rfl, by first | omega | (simp only [zuI_1, zuI_2, zuJ_1, zuJ_2, zuJ_3, zuP_1, zuP_2, zuP_3, zuC_1, zuC_2, reduceIte, Nat.reduceEqDiff, false_and, and_false, true_and, and_true, and_self, or_true, true_or, or_false, false_or]; omega)⟩

set_option maxHeartbeats 4000000 in
set_option maxRecDepth 100000 in
theorem c_X9_bakes {l : Launch} {Γ : zΓ} {G : zH} {w : Nat} {b0 c0 : Int} (hX : zXs Γ) (hb : b0 = 0 ∨ b0 = 1)(hc : 0 ≤ c0 ∧ c0 ≤ 4)(hf : G.1 2068 (Γ.2.1 w 31) c0.toNat ≤ zfl (G.1 2093 (Γ.2.1 w 64)) (G.1 2094 (Γ.2.1 w 65)) (G.1 2067 (Γ.2.1 w 30) c0.toNat) (60 * b0).toNat (G.1 2087 (Γ.2.1 w 57) b0.toNat).toNat) : zMet l Γ yX9_bakes cX9_bakes 7 none 0 [zr 10 w, zi b0, zi c0] G (zpv (fun G' => zsm [2094, 2086, 1073] G G' ∧ True)) := by
  refine zMet_of RX9 hX (by decide) rfl (Nat.le_of_ble_eq_true rfl) ?_
  intro p e s m args below meth c C hr hlk
  show Z p l e (zrm 0) s m args below meth c Γ 7 0 0 (MQ below (zQc Γ (zpv (fun G' => zsm [2094, 2086, 1073] G G' ∧ True))) args s 0 0 (zA Γ)) 0 [some (zr 10 w), some (zi b0), some (zi c0), none, none, none, none] [] G
  refine zs_loc 1 rfl (fun ha1 hb1 => ?_)
  refine zs_loc 2 rfl (fun ha2 hb2 => ?_)
  refine zs_aload_n (pc := 0) C dX9_bakes_0 rfl ?_
  refine zs_getf (pc := 1) C dX9_bakes_1 w_X9_48 f_10_31 (by decide) ?_
  refine zs_iload_n (pc := 4) C dX9_bakes_4 rfl ?_
  refine zs_iald (r := 2068) (pc := 5) C dX9_bakes_5 a_68 (by decide) (by omega) rfl (r_2068 _) (fun v5 e5 l5 u5 => ?_)
  refine zs_istore_n (pc := 6) C dX9_bakes_6 (by decide) ?_
  dsimp only [zset, zclr, znone]
  have L7 : ∀ (nn : Nat) (x3 : Int) (G1 : zH), (x3 ≤ zfl (G1.1 2093 (Γ.2.1 w 64)) (G1.1 2094 (Γ.2.1 w 65)) (G1.1 2067 (Γ.2.1 w 30) c0.toNat) (60 * b0).toNat (G1.1 2087 (Γ.2.1 w 57) b0.toNat).toNat) → (zsm [2094, 2086, 1073] G G1) → x3.toNat < nn → Z p l e (zrm 0) s m args below meth c Γ 7 0 0 (MQ below (zQc Γ (zpv (fun G' => zsm [2094, 2086, 1073] G G' ∧ True))) args s 0 0 (zA Γ)) 7 [some (zr 10 w), some (zi b0), some (zi c0), some (zi x3), none, none, none] [] G1 := by
    intro nn
    induction nn with
    | zero => intro x3 G1 h7_0 h7_1 hm; exact absurd hm (Nat.not_lt_zero _)
    | succ nn ih7 =>
      intro x3 G1 h7_0 h7_1 hm7
      refine zs_iload_n (pc := 7) C dX9_bakes_7 rfl ?_
      refine zs_if_le (tgt := 176) (pc := 8) C dX9_bakes_8 (by decide) (fun h8 => ?_) (fun h8 => ?_)
      · skip
        refine zs_aload_n (pc := 176) C dX9_bakes_176 rfl ?_
        refine zs_getf (pc := 177) C dX9_bakes_177 w_X9_103 f_10_56 (by decide) ?_
        refine zs_iconst (pc := 180) C dX9_bakes_180 (by decide) ?_
        refine zs_iload_n (pc := 181) C dX9_bakes_181 rfl ?_
        first | refine zs_imul (pc := 182) C dX9_bakes_182 (by omega) ?_ | refine zs_imulF (pc := 182) C dX9_bakes_182 (fun z182 hz1821 hz1822 => ?_)
        refine zs_iload_n (pc := 183) C dX9_bakes_183 rfl ?_
        first | refine zs_iadd (pc := 184) C dX9_bakes_184 (by omega) ?_ | refine zs_iaddF (pc := 184) C dX9_bakes_184 (fun z184 hz1841 hz1842 => ?_)
        refine zs_aload_n (pc := 185) C dX9_bakes_185 rfl ?_
        refine zs_getf (pc := 186) C dX9_bakes_186 w_X9_115 f_10_60 (by decide) ?_
        refine zs_iload_n (pc := 189) C dX9_bakes_189 rfl ?_
        refine zs_iald (r := 2090) (pc := 190) C dX9_bakes_190 a_90 (by decide) (by omega) rfl (r_2090 _) (fun v190 e190 l190 u190 => ?_)
        refine zs_iast (r := 2086) (pc := 191) C dX9_bakes_191 a_86 (by decide) (by omega) rfl (r_2086 _) (by omega) ?_
        exact zs_vret (pc := 192) C hr hlk dX9_bakes_192 ⟨by repeat (first | exact zsm_rf | assumption | refine zsm_C (by decide) ?_ | refine zsm_I (by decide) ?_ | refine zsm_J ?_ | refine zsm_c (by assumption) (by decide) ?_), trivial⟩
      · skip
        refine zs_iconst (pc := 11) C dX9_bakes_11 (by decide) ?_
        refine zs_istore (pc := 12) C dX9_bakes_12 (by decide) ?_
        dsimp only [zset, zclr, znone]
        refine zs_iconst (pc := 14) C dX9_bakes_14 (by decide) ?_
        refine zs_istore (pc := 15) C dX9_bakes_15 (by decide) ?_
        dsimp only [zset, zclr, znone]
        refine zs_good (fun hGd1 => ?_)
        have L17 : ∀ (nn : Nat) (x4 x5 : Int), (0 ≤ x5 ∧ x5 ≤ 60) → (x5 ≤ (G1.1 2087 (Γ.2.1 w 57) b0.toNat)) → ((x4 = -1 ∧ NB (G1.1 2094 (Γ.2.1 w 65)) (G1.1 2093 (Γ.2.1 w 64)) (G1.1 2067 (Γ.2.1 w 30) c0.toNat) (60 * b0).toNat x5) ∨ (60 * b0 ≤ x4 ∧ x4 < 60 * b0 + x5 ∧ G1.1 2094 (Γ.2.1 w 65) x4.toNat ≠ 0 ∧ (G1.1 2067 (Γ.2.1 w 30) c0.toNat) ≤ G1.1 2093 (Γ.2.1 w 64) x4.toNat)) → (60 - x5).toNat < nn → Z p l e (zrm 0) s m args below meth c Γ 7 0 0 (MQ below (zQc Γ (zpv (fun G' => zsm [2094, 2086, 1073] G G' ∧ True))) args s 0 0 (zA Γ)) 17 [some (zr 10 w), some (zi b0), some (zi c0), some (zi x3), some (zi x4), some (zi x5), none] [] G1 := by
          intro nn
          induction nn with
          | zero => intro x4 x5 h17_0 h17_1 h17_2 hm; exact absurd hm (Nat.not_lt_zero _)
          | succ nn ih17 =>
            intro x4 x5 h17_0 h17_1 h17_2 hm17
            refine zs_iload (pc := 17) C dX9_bakes_17 rfl ?_
            refine zs_aload_n (pc := 19) C dX9_bakes_19 rfl ?_
            refine zs_getf (pc := 20) C dX9_bakes_20 w_X9_106 f_10_57 (by decide) ?_
            refine zs_iload_n (pc := 23) C dX9_bakes_23 rfl ?_
            refine zs_iald (r := 2087) (pc := 24) C dX9_bakes_24 a_87 (by decide) (by omega) rfl (r_2087 _) (fun v24 e24 l24 u24 => ?_)
            refine zs_icmp_ge (tgt := 98) (pc := 25) C dX9_bakes_25 (by decide) (fun h25 => ?_) (fun h25 => ?_)
            · skip
              refine zs_loc 3 rfl (fun hx3a hx3b => ?_)
              have hx3 : 0 < x3 := by omega
              have hbest : 60 * b0 ≤ x4 ∧ x4 < 60 * b0 + x5 ∧ G1.1 2094 (Γ.2.1 w 65) x4.toNat ≠ 0 ∧ (G1.1 2067 (Γ.2.1 w 30) c0.toNat) ≤ G1.1 2093 (Γ.2.1 w 64) x4.toNat := by
                rcases h17_2 with ⟨q1, q2⟩ | q2
                · exfalso
                  have hz9 := zfl_none (fi := G1.1 2093 (Γ.2.1 w 64)) (ha := G1.1 2094 (Γ.2.1 w 65)) (q := (G1.1 2067 (Γ.2.1 w 30) c0.toNat)) (base := (60 * b0).toNat) (G1.1 2087 (Γ.2.1 w 57) b0.toNat).toNat (fun k hk => q2 k (by omega))
                  omega
                · exact q2
              refine zs_aload_n (pc := 98) C dX9_bakes_98 rfl ?_
              refine zs_getf (pc := 99) C dX9_bakes_99 w_X9_127 f_10_65 (by decide) ?_
              refine zs_iload (pc := 102) C dX9_bakes_102 rfl ?_
              refine zs_iald (r := 2094) (pc := 104) C dX9_bakes_104 a_94 (by decide) (by omega) rfl (r_2094 _) (fun v104 e104 l104 u104 => ?_)
              refine zs_iload_n (pc := 105) C dX9_bakes_105 rfl ?_
              refine zs_icmp_ge (tgt := 119) (pc := 106) C dX9_bakes_106 (by decide) (fun h106 => ?_) (fun h106 => ?_)
              · skip
                refine zs_iload_n (pc := 119) C dX9_bakes_119 rfl ?_
                refine zs_istore (pc := 120) C dX9_bakes_120 (by decide) ?_
                dsimp only [zset, zclr, znone]
                refine zs_aload_n (pc := 122) C dX9_bakes_122 rfl ?_
                refine zs_getf (pc := 123) C dX9_bakes_123 w_X9_127 f_10_65 (by decide) ?_
                refine zs_iload (pc := 126) C dX9_bakes_126 rfl ?_
                refine zs_dup2 (pc := 128) C dX9_bakes_128 ?_
                refine zs_iald (r := 2094) (pc := 129) C dX9_bakes_129 a_94 (by decide) (by omega) rfl (r_2094 _) (fun v129 e129 l129 u129 => ?_)
                refine zs_iload (pc := 130) C dX9_bakes_130 rfl ?_
                first | refine zs_isub (pc := 132) C dX9_bakes_132 (by omega) ?_ | refine zs_isubF (pc := 132) C dX9_bakes_132 (fun z132 hz1321 hz1322 => ?_)
                refine zs_iast (r := 2094) (pc := 133) C dX9_bakes_133 a_94 (by decide) (by omega) rfl (r_2094 _) (by omega) ?_
                first | refine zs_heap (P := fun G2 => zsm [2094] G1 G2 ∧ zfl (G2.1 2093 (Γ.2.1 w 64)) (G2.1 2094 (Γ.2.1 w 65)) (G2.1 2067 (Γ.2.1 w 30) c0.toNat) (60 * b0).toNat (G2.1 2087 (Γ.2.1 w 57) b0.toNat).toNat = zfl (G1.1 2093 (Γ.2.1 w 64)) (G1.1 2094 (Γ.2.1 w 65)) (G1.1 2067 (Γ.2.1 w 30) c0.toNat) (60 * b0).toNat (G1.1 2087 (Γ.2.1 w 57) b0.toNat).toNat - x3) ⟨zsm_I (by decide) zsm_rf, by simp only [zuI_ne (show (2093 : Nat) ≠ 2094 by decide), zuI_ne (show (2067 : Nat) ≠ 2094 by decide), zuI_ne (show (2087 : Nat) ≠ 2094 by decide)]; exact (zuI_fl (by omega) (by omega) rfl hbest.2.2.2).trans (by rw [← e129]; omega)⟩ (fun G2 hG2 => ?_) | refine zs_heap (P := fun G2 => zsm [2094] G1 G2 ∧ zfl (G2.1 2093 (Γ.2.1 w 64)) (G2.1 2094 (Γ.2.1 w 65)) (G2.1 2067 (Γ.2.1 w 30) c0.toNat) (60 * b0).toNat (G2.1 2087 (Γ.2.1 w 57) b0.toNat).toNat = zfl (G1.1 2093 (Γ.2.1 w 64)) (G1.1 2094 (Γ.2.1 w 65)) (G1.1 2067 (Γ.2.1 w 30) c0.toNat) (60 * b0).toNat (G1.1 2087 (Γ.2.1 w 57) b0.toNat).toNat - v115) ⟨zsm_I (by decide) zsm_rf, by simp only [zuI_ne (show (2093 : Nat) ≠ 2094 by decide), zuI_ne (show (2067 : Nat) ≠ 2094 by decide), zuI_ne (show (2087 : Nat) ≠ 2094 by decide)]; exact (zuI_fl (by omega) (by omega) rfl hbest.2.2.2).trans (by rw [← e129]; omega)⟩ (fun G2 hG2 => ?_)
                obtain ⟨hh1, hh2⟩ := hG2
                refine zs_iload_n (pc := 134) C dX9_bakes_134 rfl ?_
                refine zs_iload (pc := 135) C dX9_bakes_135 rfl ?_
                first | refine zs_isub (pc := 137) C dX9_bakes_137 (by omega) ?_ | refine zs_isubF (pc := 137) C dX9_bakes_137 (fun z137 hz1371 hz1372 => ?_)
                refine zs_istore_n (pc := 138) C dX9_bakes_138 (by decide) ?_
                dsimp only [zset, zclr, znone]
                refine zs_aload_n (pc := 139) C dX9_bakes_139 rfl ?_
                refine zs_dupa (pc := 140) C dX9_bakes_140 ?_
                refine zs_geti (r := 1073) (pc := 141) C dX9_bakes_141 w_X9_388 f_10_73 rfl (r_1073 0) (fun v141 e141 l141 u141 => ?_)
                try simp only [zuI_1, zuI_2, zuJ_1, zuJ_2, zuJ_3, zuP_1, zuP_2, zuP_3, zuC_1, zuC_2, reduceIte, Nat.reduceEqDiff, false_and, and_false, true_and, and_true, and_self, or_true, true_or, or_false, false_or] at e141
                refine zs_iload_n (pc := 144) C dX9_bakes_144 rfl ?_
                refine zs_iconst (pc := 145) C dX9_bakes_145 (by decide) ?_
                refine zs_icmp_ne (tgt := 168) (pc := 146) C dX9_bakes_146 (by decide) (fun h146 => ?_) (fun h146 => ?_)
                · skip
                  refine zs_iconst (pc := 168) C dX9_bakes_168 (by decide) ?_
                  first | refine zs_iadd (pc := 169) C dX9_bakes_169 (by omega) ?_ | refine zs_iaddF (pc := 169) C dX9_bakes_169 (fun z169 hz1691 hz1692 => ?_)
                  refine zs_puti (r := 1073) (pc := 170) C dX9_bakes_170 w_X9_388 f_10_73 rfl (r_1073 0) (by omega) ?_
                  refine zs_goto (tgt := 7) (pc := 173) C dX9_bakes_173 (by decide) ?_
                  exact zs_wk (ih7 _ _ (by first | omega | (simp only [zuI_ne (show (2093 : Nat) ≠ 1073 by decide), zuI_ne (show (2094 : Nat) ≠ 1073 by decide), zuI_ne (show (2067 : Nat) ≠ 1073 by decide), zuI_ne (show (2087 : Nat) ≠ 1073 by decide)]; omega)) (by repeat (first | exact zsm_rf | assumption | refine zsm_C (by decide) ?_ | refine zsm_I (by decide) ?_ | refine zsm_J ?_ | refine zsm_c (by assumption) (by decide) ?_)) (by first | omega | (simp only [zuI_1, zuI_2, zuJ_1, zuJ_2, zuJ_3, zuP_1, zuP_2, zuP_3, zuC_1, zuC_2, reduceIte, Nat.reduceEqDiff, false_and, and_false, true_and, and_true, and_self, or_true, true_or, or_false, false_or]; omega))) (zwk_s rfl (zwk_s rfl (zwk_s rfl (zwk_s rfl (zwk_n (zwk_n (zwk_n zwk_0)))))))
                · skip
                  refine zs_aload_n (pc := 149) C dX9_bakes_149 rfl ?_
                  refine zs_getf (pc := 150) C dX9_bakes_150 w_X9_124 f_10_64 (by decide) ?_
                  refine zs_iload (pc := 153) C dX9_bakes_153 rfl ?_
                  refine zs_iald (r := 2093) (pc := 155) C dX9_bakes_155 a_93 (by decide) (by omega) rfl (r_2093 _) (fun v155 e155 l155 u155 => ?_)
                  try simp only [zuI_1, zuI_2, zuJ_1, zuJ_2, zuJ_3, zuP_1, zuP_2, zuP_3, zuC_1, zuC_2, reduceIte, Nat.reduceEqDiff, false_and, and_false, true_and, and_true, and_self, or_true, true_or, or_false, false_or] at e155
                  refine zs_aload_n (pc := 156) C dX9_bakes_156 rfl ?_
                  refine zs_geti (r := 1072) (pc := 157) C dX9_bakes_157 w_X9_391 f_10_72 rfl (r_1072 0) (fun v157 e157 l157 u157 => ?_)
                  try simp only [zuI_1, zuI_2, zuJ_1, zuJ_2, zuJ_3, zuP_1, zuP_2, zuP_3, zuC_1, zuC_2, reduceIte, Nat.reduceEqDiff, false_and, and_false, true_and, and_true, and_self, or_true, true_or, or_false, false_or] at e157
                  refine zs_icmp_lt (tgt := 168) (pc := 160) C dX9_bakes_160 (by decide) (fun h160 => ?_) (fun h160 => ?_)
                  · skip
                    refine zs_iconst (pc := 168) C dX9_bakes_168 (by decide) ?_
                    first | refine zs_iadd (pc := 169) C dX9_bakes_169 (by omega) ?_ | refine zs_iaddF (pc := 169) C dX9_bakes_169 (fun z169 hz1691 hz1692 => ?_)
                    refine zs_puti (r := 1073) (pc := 170) C dX9_bakes_170 w_X9_388 f_10_73 rfl (r_1073 0) (by omega) ?_
                    refine zs_goto (tgt := 7) (pc := 173) C dX9_bakes_173 (by decide) ?_
                    exact zs_wk (ih7 _ _ (by first | omega | (simp only [zuI_ne (show (2093 : Nat) ≠ 1073 by decide), zuI_ne (show (2094 : Nat) ≠ 1073 by decide), zuI_ne (show (2067 : Nat) ≠ 1073 by decide), zuI_ne (show (2087 : Nat) ≠ 1073 by decide)]; omega)) (by repeat (first | exact zsm_rf | assumption | refine zsm_C (by decide) ?_ | refine zsm_I (by decide) ?_ | refine zsm_J ?_ | refine zsm_c (by assumption) (by decide) ?_)) (by first | omega | (simp only [zuI_1, zuI_2, zuJ_1, zuJ_2, zuJ_3, zuP_1, zuP_2, zuP_3, zuC_1, zuC_2, reduceIte, Nat.reduceEqDiff, false_and, and_false, true_and, and_true, and_self, or_true, true_or, or_false, false_or]; omega))) (zwk_s rfl (zwk_s rfl (zwk_s rfl (zwk_s rfl (zwk_n (zwk_n (zwk_n zwk_0)))))))
                  · skip
                    refine zs_iload (pc := 163) C dX9_bakes_163 rfl ?_
                    refine zs_goto (tgt := 169) (pc := 165) C dX9_bakes_165 (by decide) ?_
                    first | refine zs_iadd (pc := 169) C dX9_bakes_169 (by omega) ?_ | refine zs_iaddF (pc := 169) C dX9_bakes_169 (fun z169 hz1691 hz1692 => ?_)
                    refine zs_puti (r := 1073) (pc := 170) C dX9_bakes_170 w_X9_388 f_10_73 rfl (r_1073 0) (by omega) ?_
                    refine zs_goto (tgt := 7) (pc := 173) C dX9_bakes_173 (by decide) ?_
                    exact zs_wk (ih7 _ _ (by first | omega | (simp only [zuI_ne (show (2093 : Nat) ≠ 1073 by decide), zuI_ne (show (2094 : Nat) ≠ 1073 by decide), zuI_ne (show (2067 : Nat) ≠ 1073 by decide), zuI_ne (show (2087 : Nat) ≠ 1073 by decide)]; omega)) (by repeat (first | exact zsm_rf | assumption | refine zsm_C (by decide) ?_ | refine zsm_I (by decide) ?_ | refine zsm_J ?_ | refine zsm_c (by assumption) (by decide) ?_)) (by first | omega | (simp only [zuI_1, zuI_2, zuJ_1, zuJ_2, zuJ_3, zuP_1, zuP_2, zuP_3, zuC_1, zuC_2, reduceIte, Nat.reduceEqDiff, false_and, and_false, true_and, and_true, and_self, or_true, true_or, or_false, false_or]; omega))) (zwk_s rfl (zwk_s rfl (zwk_s rfl (zwk_s rfl (zwk_n (zwk_n (zwk_n zwk_0)))))))
              · skip
                refine zs_aload_n (pc := 109) C dX9_bakes_109 rfl ?_
                refine zs_getf (pc := 110) C dX9_bakes_110 w_X9_127 f_10_65 (by decide) ?_
                refine zs_iload (pc := 113) C dX9_bakes_113 rfl ?_
                refine zs_iald (r := 2094) (pc := 115) C dX9_bakes_115 a_94 (by decide) (by omega) rfl (r_2094 _) (fun v115 e115 l115 u115 => ?_)
                refine zs_goto (tgt := 120) (pc := 116) C dX9_bakes_116 (by decide) ?_
                refine zs_istore (pc := 120) C dX9_bakes_120 (by decide) ?_
                dsimp only [zset, zclr, znone]
                refine zs_aload_n (pc := 122) C dX9_bakes_122 rfl ?_
                refine zs_getf (pc := 123) C dX9_bakes_123 w_X9_127 f_10_65 (by decide) ?_
                refine zs_iload (pc := 126) C dX9_bakes_126 rfl ?_
                refine zs_dup2 (pc := 128) C dX9_bakes_128 ?_
                refine zs_iald (r := 2094) (pc := 129) C dX9_bakes_129 a_94 (by decide) (by omega) rfl (r_2094 _) (fun v129 e129 l129 u129 => ?_)
                refine zs_iload (pc := 130) C dX9_bakes_130 rfl ?_
                first | refine zs_isub (pc := 132) C dX9_bakes_132 (by omega) ?_ | refine zs_isubF (pc := 132) C dX9_bakes_132 (fun z132 hz1321 hz1322 => ?_)
                refine zs_iast (r := 2094) (pc := 133) C dX9_bakes_133 a_94 (by decide) (by omega) rfl (r_2094 _) (by omega) ?_
                first | refine zs_heap (P := fun G2 => zsm [2094] G1 G2 ∧ zfl (G2.1 2093 (Γ.2.1 w 64)) (G2.1 2094 (Γ.2.1 w 65)) (G2.1 2067 (Γ.2.1 w 30) c0.toNat) (60 * b0).toNat (G2.1 2087 (Γ.2.1 w 57) b0.toNat).toNat = zfl (G1.1 2093 (Γ.2.1 w 64)) (G1.1 2094 (Γ.2.1 w 65)) (G1.1 2067 (Γ.2.1 w 30) c0.toNat) (60 * b0).toNat (G1.1 2087 (Γ.2.1 w 57) b0.toNat).toNat - x3) ⟨zsm_I (by decide) zsm_rf, by simp only [zuI_ne (show (2093 : Nat) ≠ 2094 by decide), zuI_ne (show (2067 : Nat) ≠ 2094 by decide), zuI_ne (show (2087 : Nat) ≠ 2094 by decide)]; exact (zuI_fl (by omega) (by omega) rfl hbest.2.2.2).trans (by rw [← e129]; omega)⟩ (fun G2 hG2 => ?_) | refine zs_heap (P := fun G2 => zsm [2094] G1 G2 ∧ zfl (G2.1 2093 (Γ.2.1 w 64)) (G2.1 2094 (Γ.2.1 w 65)) (G2.1 2067 (Γ.2.1 w 30) c0.toNat) (60 * b0).toNat (G2.1 2087 (Γ.2.1 w 57) b0.toNat).toNat = zfl (G1.1 2093 (Γ.2.1 w 64)) (G1.1 2094 (Γ.2.1 w 65)) (G1.1 2067 (Γ.2.1 w 30) c0.toNat) (60 * b0).toNat (G1.1 2087 (Γ.2.1 w 57) b0.toNat).toNat - v115) ⟨zsm_I (by decide) zsm_rf, by simp only [zuI_ne (show (2093 : Nat) ≠ 2094 by decide), zuI_ne (show (2067 : Nat) ≠ 2094 by decide), zuI_ne (show (2087 : Nat) ≠ 2094 by decide)]; exact (zuI_fl (by omega) (by omega) rfl hbest.2.2.2).trans (by rw [← e129]; omega)⟩ (fun G2 hG2 => ?_)
                obtain ⟨hh1, hh2⟩ := hG2
                refine zs_iload_n (pc := 134) C dX9_bakes_134 rfl ?_
                refine zs_iload (pc := 135) C dX9_bakes_135 rfl ?_
                first | refine zs_isub (pc := 137) C dX9_bakes_137 (by omega) ?_ | refine zs_isubF (pc := 137) C dX9_bakes_137 (fun z137 hz1371 hz1372 => ?_)
                refine zs_istore_n (pc := 138) C dX9_bakes_138 (by decide) ?_
                dsimp only [zset, zclr, znone]
                refine zs_aload_n (pc := 139) C dX9_bakes_139 rfl ?_
                refine zs_dupa (pc := 140) C dX9_bakes_140 ?_
                refine zs_geti (r := 1073) (pc := 141) C dX9_bakes_141 w_X9_388 f_10_73 rfl (r_1073 0) (fun v141 e141 l141 u141 => ?_)
                try simp only [zuI_1, zuI_2, zuJ_1, zuJ_2, zuJ_3, zuP_1, zuP_2, zuP_3, zuC_1, zuC_2, reduceIte, Nat.reduceEqDiff, false_and, and_false, true_and, and_true, and_self, or_true, true_or, or_false, false_or] at e141
                refine zs_iload_n (pc := 144) C dX9_bakes_144 rfl ?_
                refine zs_iconst (pc := 145) C dX9_bakes_145 (by decide) ?_
                refine zs_icmp_ne (tgt := 168) (pc := 146) C dX9_bakes_146 (by decide) (fun h146 => ?_) (fun h146 => ?_)
                · skip
                  refine zs_iconst (pc := 168) C dX9_bakes_168 (by decide) ?_
                  first | refine zs_iadd (pc := 169) C dX9_bakes_169 (by omega) ?_ | refine zs_iaddF (pc := 169) C dX9_bakes_169 (fun z169 hz1691 hz1692 => ?_)
                  refine zs_puti (r := 1073) (pc := 170) C dX9_bakes_170 w_X9_388 f_10_73 rfl (r_1073 0) (by omega) ?_
                  refine zs_goto (tgt := 7) (pc := 173) C dX9_bakes_173 (by decide) ?_
                  exact zs_wk (ih7 _ _ (by first | omega | (simp only [zuI_ne (show (2093 : Nat) ≠ 1073 by decide), zuI_ne (show (2094 : Nat) ≠ 1073 by decide), zuI_ne (show (2067 : Nat) ≠ 1073 by decide), zuI_ne (show (2087 : Nat) ≠ 1073 by decide)]; omega)) (by repeat (first | exact zsm_rf | assumption | refine zsm_C (by decide) ?_ | refine zsm_I (by decide) ?_ | refine zsm_J ?_ | refine zsm_c (by assumption) (by decide) ?_)) (by first | omega | (simp only [zuI_1, zuI_2, zuJ_1, zuJ_2, zuJ_3, zuP_1, zuP_2, zuP_3, zuC_1, zuC_2, reduceIte, Nat.reduceEqDiff, false_and, and_false, true_and, and_true, and_self, or_true, true_or, or_false, false_or]; omega))) (zwk_s rfl (zwk_s rfl (zwk_s rfl (zwk_s rfl (zwk_n (zwk_n (zwk_n zwk_0)))))))
                · skip
                  refine zs_aload_n (pc := 149) C dX9_bakes_149 rfl ?_
                  refine zs_getf (pc := 150) C dX9_bakes_150 w_X9_124 f_10_64 (by decide) ?_
                  refine zs_iload (pc := 153) C dX9_bakes_153 rfl ?_
                  refine zs_iald (r := 2093) (pc := 155) C dX9_bakes_155 a_93 (by decide) (by omega) rfl (r_2093 _) (fun v155 e155 l155 u155 => ?_)
                  try simp only [zuI_1, zuI_2, zuJ_1, zuJ_2, zuJ_3, zuP_1, zuP_2, zuP_3, zuC_1, zuC_2, reduceIte, Nat.reduceEqDiff, false_and, and_false, true_and, and_true, and_self, or_true, true_or, or_false, false_or] at e155
                  refine zs_aload_n (pc := 156) C dX9_bakes_156 rfl ?_
                  refine zs_geti (r := 1072) (pc := 157) C dX9_bakes_157 w_X9_391 f_10_72 rfl (r_1072 0) (fun v157 e157 l157 u157 => ?_)
                  try simp only [zuI_1, zuI_2, zuJ_1, zuJ_2, zuJ_3, zuP_1, zuP_2, zuP_3, zuC_1, zuC_2, reduceIte, Nat.reduceEqDiff, false_and, and_false, true_and, and_true, and_self, or_true, true_or, or_false, false_or] at e157
                  refine zs_icmp_lt (tgt := 168) (pc := 160) C dX9_bakes_160 (by decide) (fun h160 => ?_) (fun h160 => ?_)
                  · skip
                    refine zs_iconst (pc := 168) C dX9_bakes_168 (by decide) ?_
                    first | refine zs_iadd (pc := 169) C dX9_bakes_169 (by omega) ?_ | refine zs_iaddF (pc := 169) C dX9_bakes_169 (fun z169 hz1691 hz1692 => ?_)
                    refine zs_puti (r := 1073) (pc := 170) C dX9_bakes_170 w_X9_388 f_10_73 rfl (r_1073 0) (by omega) ?_
                    refine zs_goto (tgt := 7) (pc := 173) C dX9_bakes_173 (by decide) ?_
                    exact zs_wk (ih7 _ _ (by first | omega | (simp only [zuI_ne (show (2093 : Nat) ≠ 1073 by decide), zuI_ne (show (2094 : Nat) ≠ 1073 by decide), zuI_ne (show (2067 : Nat) ≠ 1073 by decide), zuI_ne (show (2087 : Nat) ≠ 1073 by decide)]; omega)) (by repeat (first | exact zsm_rf | assumption | refine zsm_C (by decide) ?_ | refine zsm_I (by decide) ?_ | refine zsm_J ?_ | refine zsm_c (by assumption) (by decide) ?_)) (by first | omega | (simp only [zuI_1, zuI_2, zuJ_1, zuJ_2, zuJ_3, zuP_1, zuP_2, zuP_3, zuC_1, zuC_2, reduceIte, Nat.reduceEqDiff, false_and, and_false, true_and, and_true, and_self, or_true, true_or, or_false, false_or]; omega))) (zwk_s rfl (zwk_s rfl (zwk_s rfl (zwk_s rfl (zwk_n (zwk_n (zwk_n zwk_0)))))))
                  · skip
                    refine zs_iload (pc := 163) C dX9_bakes_163 rfl ?_
                    refine zs_goto (tgt := 169) (pc := 165) C dX9_bakes_165 (by decide) ?_
                    first | refine zs_iadd (pc := 169) C dX9_bakes_169 (by omega) ?_ | refine zs_iaddF (pc := 169) C dX9_bakes_169 (fun z169 hz1691 hz1692 => ?_)
                    refine zs_puti (r := 1073) (pc := 170) C dX9_bakes_170 w_X9_388 f_10_73 rfl (r_1073 0) (by omega) ?_
                    refine zs_goto (tgt := 7) (pc := 173) C dX9_bakes_173 (by decide) ?_
                    exact zs_wk (ih7 _ _ (by first | omega | (simp only [zuI_ne (show (2093 : Nat) ≠ 1073 by decide), zuI_ne (show (2094 : Nat) ≠ 1073 by decide), zuI_ne (show (2067 : Nat) ≠ 1073 by decide), zuI_ne (show (2087 : Nat) ≠ 1073 by decide)]; omega)) (by repeat (first | exact zsm_rf | assumption | refine zsm_C (by decide) ?_ | refine zsm_I (by decide) ?_ | refine zsm_J ?_ | refine zsm_c (by assumption) (by decide) ?_)) (by first | omega | (simp only [zuI_1, zuI_2, zuJ_1, zuJ_2, zuJ_3, zuP_1, zuP_2, zuP_3, zuC_1, zuC_2, reduceIte, Nat.reduceEqDiff, false_and, and_false, true_and, and_true, and_self, or_true, true_or, or_false, false_or]; omega))) (zwk_s rfl (zwk_s rfl (zwk_s rfl (zwk_s rfl (zwk_n (zwk_n (zwk_n zwk_0)))))))
            · skip
              refine zs_bipush (pc := 28) C dX9_bakes_28 (by decide) (by decide) ?_
              refine zs_iload_n (pc := 30) C dX9_bakes_30 rfl ?_
              first | refine zs_imul (pc := 31) C dX9_bakes_31 (by omega) ?_ | refine zs_imulF (pc := 31) C dX9_bakes_31 (fun z31 hz311 hz312 => ?_)
              refine zs_iload (pc := 32) C dX9_bakes_32 rfl ?_
              first | refine zs_iadd (pc := 34) C dX9_bakes_34 (by omega) ?_ | refine zs_iaddF (pc := 34) C dX9_bakes_34 (fun z34 hz341 hz342 => ?_)
              refine zs_istore (pc := 35) C dX9_bakes_35 (by decide) ?_
              dsimp only [zset, zclr, znone]
              refine zs_aload_n (pc := 37) C dX9_bakes_37 rfl ?_
              refine zs_getf (pc := 38) C dX9_bakes_38 w_X9_127 f_10_65 (by decide) ?_
              refine zs_iload (pc := 41) C dX9_bakes_41 rfl ?_
              refine zs_iald (r := 2094) (pc := 43) C dX9_bakes_43 a_94 (by decide) (by omega) rfl (r_2094 _) (fun v43 e43 l43 u43 => ?_)
              refine zs_if_eq (tgt := 92) (pc := 44) C dX9_bakes_44 (by decide) (fun h44 => ?_) (fun h44 => ?_)
              · skip
                first | refine zs_iinc (pc := 92) C dX9_bakes_92 rfl (by decide) (by omega) ?_ | refine zs_iincF (pc := 92) C dX9_bakes_92 rfl (by decide) (fun z92 hz921 hz922 => ?_)
                dsimp only [zset, zclr, znone]
                refine zs_goto (tgt := 17) (pc := 95) C dX9_bakes_95 (by decide) ?_
                exact zs_wk (ih17 _ _ (by omega) (by omega) (by rcases h17_2 with ⟨q1, q2⟩ | q2 <;> first | exact Or.inl ⟨q1, NB_s q2 (by omega) h17_0.1 (Or.inl (by rw [← e43]; omega))⟩ | exact Or.inl ⟨q1, NB_s q2 (by omega) h17_0.1 (Or.inr (by rw [← e53]; omega))⟩ | exact Or.inr ⟨by omega, by omega, by rw [← e43]; omega, by rw [← e53]; omega⟩ | exact Or.inr ⟨by omega, by omega, q2.2.2.1, q2.2.2.2⟩) (by first | omega | (simp only [zuI_1, zuI_2, zuJ_1, zuJ_2, zuJ_3, zuP_1, zuP_2, zuP_3, zuC_1, zuC_2, reduceIte, Nat.reduceEqDiff, false_and, and_false, true_and, and_true, and_self, or_true, true_or, or_false, false_or]; omega))) (zwk_s rfl (zwk_s rfl (zwk_s rfl (zwk_s rfl (zwk_s rfl (zwk_s rfl (zwk_n zwk_0)))))))
              · skip
                refine zs_aload_n (pc := 47) C dX9_bakes_47 rfl ?_
                refine zs_getf (pc := 48) C dX9_bakes_48 w_X9_124 f_10_64 (by decide) ?_
                refine zs_iload (pc := 51) C dX9_bakes_51 rfl ?_
                refine zs_iald (r := 2093) (pc := 53) C dX9_bakes_53 a_93 (by decide) (by omega) rfl (r_2093 _) (fun v53 e53 l53 u53 => ?_)
                refine zs_aload_n (pc := 54) C dX9_bakes_54 rfl ?_
                refine zs_getf (pc := 55) C dX9_bakes_55 w_X9_45 f_10_30 (by decide) ?_
                refine zs_iload_n (pc := 58) C dX9_bakes_58 rfl ?_
                refine zs_iald (r := 2067) (pc := 59) C dX9_bakes_59 a_67 (by decide) (by omega) rfl (r_2067 _) (fun v59 e59 l59 u59 => ?_)
                refine zs_icmp_ge (tgt := 66) (pc := 60) C dX9_bakes_60 (by decide) (fun h60 => ?_) (fun h60 => ?_)
                · skip
                  refine zs_iload (pc := 66) C dX9_bakes_66 rfl ?_
                  refine zs_if_lt (tgt := 88) (pc := 68) C dX9_bakes_68 (by decide) (fun h68 => ?_) (fun h68 => ?_)
                  · skip
                    refine zs_iload (pc := 88) C dX9_bakes_88 rfl ?_
                    refine zs_istore (pc := 90) C dX9_bakes_90 (by decide) ?_
                    dsimp only [zset, zclr, znone]
                    first | refine zs_iinc (pc := 92) C dX9_bakes_92 rfl (by decide) (by omega) ?_ | refine zs_iincF (pc := 92) C dX9_bakes_92 rfl (by decide) (fun z92 hz921 hz922 => ?_)
                    dsimp only [zset, zclr, znone]
                    refine zs_goto (tgt := 17) (pc := 95) C dX9_bakes_95 (by decide) ?_
                    exact zs_wk (ih17 _ _ (by omega) (by omega) (by rcases h17_2 with ⟨q1, q2⟩ | q2 <;> first | exact Or.inl ⟨q1, NB_s q2 (by omega) h17_0.1 (Or.inl (by rw [← e43]; omega))⟩ | exact Or.inl ⟨q1, NB_s q2 (by omega) h17_0.1 (Or.inr (by rw [← e53]; omega))⟩ | exact Or.inr ⟨by omega, by omega, by rw [← e43]; omega, by rw [← e53]; omega⟩ | exact Or.inr ⟨by omega, by omega, q2.2.2.1, q2.2.2.2⟩) (by first | omega | (simp only [zuI_1, zuI_2, zuJ_1, zuJ_2, zuJ_3, zuP_1, zuP_2, zuP_3, zuC_1, zuC_2, reduceIte, Nat.reduceEqDiff, false_and, and_false, true_and, and_true, and_self, or_true, true_or, or_false, false_or]; omega))) (zwk_s rfl (zwk_s rfl (zwk_s rfl (zwk_s rfl (zwk_s rfl (zwk_s rfl (zwk_n zwk_0)))))))
                  · skip
                    refine zs_aload_n (pc := 71) C dX9_bakes_71 rfl ?_
                    refine zs_getf (pc := 72) C dX9_bakes_72 w_X9_124 f_10_64 (by decide) ?_
                    refine zs_iload (pc := 75) C dX9_bakes_75 rfl ?_
                    refine zs_iald (r := 2093) (pc := 77) C dX9_bakes_77 a_93 (by decide) (by omega) rfl (r_2093 _) (fun v77 e77 l77 u77 => ?_)
                    refine zs_aload_n (pc := 78) C dX9_bakes_78 rfl ?_
                    refine zs_getf (pc := 79) C dX9_bakes_79 w_X9_124 f_10_64 (by decide) ?_
                    refine zs_iload (pc := 82) C dX9_bakes_82 rfl ?_
                    refine zs_iald (r := 2093) (pc := 84) C dX9_bakes_84 a_93 (by decide) (by omega) rfl (r_2093 _) (fun v84 e84 l84 u84 => ?_)
                    refine zs_icmp_ge (tgt := 92) (pc := 85) C dX9_bakes_85 (by decide) (fun h85 => ?_) (fun h85 => ?_)
                    · skip
                      first | refine zs_iinc (pc := 92) C dX9_bakes_92 rfl (by decide) (by omega) ?_ | refine zs_iincF (pc := 92) C dX9_bakes_92 rfl (by decide) (fun z92 hz921 hz922 => ?_)
                      dsimp only [zset, zclr, znone]
                      refine zs_goto (tgt := 17) (pc := 95) C dX9_bakes_95 (by decide) ?_
                      exact zs_wk (ih17 _ _ (by omega) (by omega) (by rcases h17_2 with ⟨q1, q2⟩ | q2 <;> first | exact Or.inl ⟨q1, NB_s q2 (by omega) h17_0.1 (Or.inl (by rw [← e43]; omega))⟩ | exact Or.inl ⟨q1, NB_s q2 (by omega) h17_0.1 (Or.inr (by rw [← e53]; omega))⟩ | exact Or.inr ⟨by omega, by omega, by rw [← e43]; omega, by rw [← e53]; omega⟩ | exact Or.inr ⟨by omega, by omega, q2.2.2.1, q2.2.2.2⟩) (by first | omega | (simp only [zuI_1, zuI_2, zuJ_1, zuJ_2, zuJ_3, zuP_1, zuP_2, zuP_3, zuC_1, zuC_2, reduceIte, Nat.reduceEqDiff, false_and, and_false, true_and, and_true, and_self, or_true, true_or, or_false, false_or]; omega))) (zwk_s rfl (zwk_s rfl (zwk_s rfl (zwk_s rfl (zwk_s rfl (zwk_s rfl (zwk_n zwk_0)))))))
                    · skip
                      refine zs_iload (pc := 88) C dX9_bakes_88 rfl ?_
                      refine zs_istore (pc := 90) C dX9_bakes_90 (by decide) ?_
                      dsimp only [zset, zclr, znone]
                      first | refine zs_iinc (pc := 92) C dX9_bakes_92 rfl (by decide) (by omega) ?_ | refine zs_iincF (pc := 92) C dX9_bakes_92 rfl (by decide) (fun z92 hz921 hz922 => ?_)
                      dsimp only [zset, zclr, znone]
                      refine zs_goto (tgt := 17) (pc := 95) C dX9_bakes_95 (by decide) ?_
                      exact zs_wk (ih17 _ _ (by omega) (by omega) (by rcases h17_2 with ⟨q1, q2⟩ | q2 <;> first | exact Or.inl ⟨q1, NB_s q2 (by omega) h17_0.1 (Or.inl (by rw [← e43]; omega))⟩ | exact Or.inl ⟨q1, NB_s q2 (by omega) h17_0.1 (Or.inr (by rw [← e53]; omega))⟩ | exact Or.inr ⟨by omega, by omega, by rw [← e43]; omega, by rw [← e53]; omega⟩ | exact Or.inr ⟨by omega, by omega, q2.2.2.1, q2.2.2.2⟩) (by first | omega | (simp only [zuI_1, zuI_2, zuJ_1, zuJ_2, zuJ_3, zuP_1, zuP_2, zuP_3, zuC_1, zuC_2, reduceIte, Nat.reduceEqDiff, false_and, and_false, true_and, and_true, and_self, or_true, true_or, or_false, false_or]; omega))) (zwk_s rfl (zwk_s rfl (zwk_s rfl (zwk_s rfl (zwk_s rfl (zwk_s rfl (zwk_n zwk_0)))))))
                · skip
                  refine zs_goto (tgt := 92) (pc := 63) C dX9_bakes_63 (by decide) ?_
                  first | refine zs_iinc (pc := 92) C dX9_bakes_92 rfl (by decide) (by omega) ?_ | refine zs_iincF (pc := 92) C dX9_bakes_92 rfl (by decide) (fun z92 hz921 hz922 => ?_)
                  dsimp only [zset, zclr, znone]
                  refine zs_goto (tgt := 17) (pc := 95) C dX9_bakes_95 (by decide) ?_
                  exact zs_wk (ih17 _ _ (by omega) (by omega) (by rcases h17_2 with ⟨q1, q2⟩ | q2 <;> first | exact Or.inl ⟨q1, NB_s q2 (by omega) h17_0.1 (Or.inl (by rw [← e43]; omega))⟩ | exact Or.inl ⟨q1, NB_s q2 (by omega) h17_0.1 (Or.inr (by rw [← e53]; omega))⟩ | exact Or.inr ⟨by omega, by omega, by rw [← e43]; omega, by rw [← e53]; omega⟩ | exact Or.inr ⟨by omega, by omega, q2.2.2.1, q2.2.2.2⟩) (by first | omega | (simp only [zuI_1, zuI_2, zuJ_1, zuJ_2, zuJ_3, zuP_1, zuP_2, zuP_3, zuC_1, zuC_2, reduceIte, Nat.reduceEqDiff, false_and, and_false, true_and, and_true, and_self, or_true, true_or, or_false, false_or]; omega))) (zwk_s rfl (zwk_s rfl (zwk_s rfl (zwk_s rfl (zwk_s rfl (zwk_s rfl (zwk_n zwk_0)))))))
        exact zs_wk (L17 _ _ _ (by omega) (by have := hGd1.1 2087 (Γ.2.1 w 57) b0.toNat; rw [r_2087] at this; omega) (Or.inl ⟨rfl, NB_0⟩) (Nat.lt_succ_self _)) (zwk_s rfl (zwk_s rfl (zwk_s rfl (zwk_s rfl (zwk_s rfl (zwk_s rfl (zwk_n zwk_0)))))))
  exact zs_wk (L7 _ _ _ (by first | omega | (simp only [zuI_1, zuI_2, zuJ_1, zuJ_2, zuJ_3, zuP_1, zuP_2, zuP_3, zuC_1, zuC_2, reduceIte, Nat.reduceEqDiff, false_and, and_false, true_and, and_true, and_self, or_true, true_or, or_false, false_or]; omega)) (by repeat (first | exact zsm_rf | assumption | refine zsm_C (by decide) ?_ | refine zsm_I (by decide) ?_ | refine zsm_J ?_ | refine zsm_c (by assumption) (by decide) ?_)) (Nat.lt_succ_self _)) (zwk_s rfl (zwk_s rfl (zwk_s rfl (zwk_s rfl (zwk_n (zwk_n (zwk_n zwk_0)))))))
