set_option maxHeartbeats 4000000 in
set_option maxRecDepth 100000 in
theorem c_X9_lineReadY {l : Launch} {Γ : zΓ} {G : zH} {w : Nat} {b : Nat → Int} {n : Int} {A : aS}  (hX : zXs Γ) (hM : MI Γ w G)(hC : RC Γ w G) (hR : gR b n Γ w A G) (hn7 : n ≤ 700) : zMet l Γ yX9_lineRead cX9_lineRead 3 (some .boolean) 5 [zr 10 w] G (zpi (fun x G' => zsm [1007, 1008, 1009, 1010, 1004, 1005, 1011, 2063, 2064, 2065, 1018, 2066, 2067, 2068, 2069, 1019, 2074, 2075, 2076, 2078, 1043, 1021, 2077, 1042, 1044, 1045, 1046, 1047, 2071, 2072, 2073, 2061, 2062, 1017, 2070, 1020, 2060, 2059] G G' ∧ LJr G G' ∧ ((x = 0 ∨ x = 1) ∧ MI Γ w G' ∧ (x = 1 → RC Γ w G' ∧ gR b n Γ w (sLine b n A) G' ∧ G.1 1010 w 0 < G'.1 1010 w 0) ∧ (x = 0 → FT w (sLine b n A) G')))) := by
  have mc := mst_c
  have hR0 := hR
  obtain ⟨hG, hF, hD⟩ := hR
  have hs9 := hD.1
  have hm9 := hD.2.2.2.1
  have hL9 := hD.2.2.2.2.2.1
  have hK9 := hD.2.2.2.2.2.2.1
  have hc9 := hD.2.2.2.2.2.2.2
  have sn1 := hs9.1
  have sn2 := hs9.2.1
  have mn1 := hm9.1
  have mn2 := hm9.2.1
  have h0 := hF.1
  have g10 := hG.2.2.2.2.1
  have gnl := hG.2.2.2.1
  refine zMet_of RX9 hX (by decide) rfl (Nat.le_of_ble_eq_true rfl) ?_
  intro p e s m args below meth c C hr hlk
  show Z p l e (zrm 5) s m args below meth c Γ 3 0 0 (MQ below (zQc Γ (zpi (fun x G' => zsm [1007, 1008, 1009, 1010, 1004, 1005, 1011, 2063, 2064, 2065, 1018, 2066, 2067, 2068, 2069, 1019, 2074, 2075, 2076, 2078, 1043, 1021, 2077, 1042, 1044, 1045, 1046, 1047, 2071, 2072, 2073, 2061, 2062, 1017, 2070, 1020, 2060, 2059] G G' ∧ LJr G G' ∧ ((x = 0 ∨ x = 1) ∧ MI Γ w G' ∧ (x = 1 → RC Γ w G' ∧ gR b n Γ w (sLine b n A) G' ∧ G.1 1010 w 0 < G'.1 1010 w 0) ∧ (x = 0 → FT w (sLine b n A) G'))))) args s 0 0 (zA Γ)) 0 [some (zr 10 w), none, none] [] G
  refine zs_good (fun hGdz => ?_)
  have hbz_1010 := hGdz.1 1010 w 0
  rw [r_1010] at hbz_1010
  refine zs_aload_n (pc := 0) C dX9_lineRead_0 rfl ?_
  refine zs_geti (r := 1008) (pc := 1) C dX9_lineRead_1 w_X9_196 f_10_8 rfl (r_1008 0) (fun v1 e1 l1 u1 => ?_)
  refine zs_iconst (pc := 4) C dX9_lineRead_4 (by decide) ?_
  refine zs_icmp_ne (tgt := 17) (pc := 5) C dX9_lineRead_5 (by decide) (fun h5 => ?_) (fun h5 => ?_)
  · skip
    refine zs_aload_n (pc := 17) C dX9_lineRead_17 rfl ?_
    refine zs_iconst (pc := 18) C dX9_lineRead_18 (by decide) ?_
    refine zVi1 (pc := 19) C dX9_lineRead_19 v_X9_220 (c_X9_wrongY hX ) (by decide) (by decide) ⟨Nat.zero_le _, Nat.zero_le _⟩ (Nat.le_of_ble_eq_true rfl) (fun x19 G19 l19 u19 hp19 => ?_)
    obtain ⟨hz19, lo19, hq19⟩ := hp19
    have tr19_1017 := zsm_at hz19 1017 w 0 (by decide)
    try simp only [zuI_1, zuI_2, zuJ_1, zuJ_2, zuJ_3, zuP_1, zuP_2, zuP_3, zuC_1, zuC_2, reduceIte, Nat.reduceEqDiff, false_and, and_false, true_and, and_true, and_self, or_true, true_or, or_false, false_or] at tr19_1017
    have tr19_1020 := zsm_at hz19 1020 w 0 (by decide)
    try simp only [zuI_1, zuI_2, zuJ_1, zuJ_2, zuJ_3, zuP_1, zuP_2, zuP_3, zuC_1, zuC_2, reduceIte, Nat.reduceEqDiff, false_and, and_false, true_and, and_true, and_self, or_true, true_or, or_false, false_or] at tr19_1020
    have tr19_1010 := zsm_at hz19 1010 w 0 (by decide)
    try simp only [zuI_1, zuI_2, zuJ_1, zuJ_2, zuJ_3, zuP_1, zuP_2, zuP_3, zuC_1, zuC_2, reduceIte, Nat.reduceEqDiff, false_and, and_false, true_and, and_true, and_self, or_true, true_or, or_false, false_or] at tr19_1010
    exact zs_zret (pc := 22) C hr hlk dX9_lineRead_22 (by omega) ⟨by repeat (first | exact zsm_rf | assumption | refine zsm_C (by decide) ?_ | refine zsm_I (by decide) ?_ | refine zsm_J ?_ | refine zsm_c (by assumption) (by decide) ?_), (by with_reducible repeat (first | exact LJr_rf | assumption | refine LJr_I (h := 0) (by decide) (Nat.zero_le _) ?_ | refine LJr_I (h := 3) (by decide) (by omega) ?_ | refine LJr_I (h := 4) (by decide) (by omega) ?_ | refine LJr_I (h := 5) (by decide) (by omega) ?_ | refine LJr_I (h := 7) (by decide) (by omega) ?_ | refine LJr_I (h := 20) (by decide) (by omega) ?_ | refine LJr_I (h := 64) (by decide) (by omega) ?_ | refine LJr_c (by assumption) ?_)), ⟨by omega, (by repeat (first | assumption | refine MI_I (by decide) ?_ | refine MI_J ?_ | refine MI_sm (by assumption) (by decide) ?_ | refine MI_sn (by assumption) (by decide) ?_)), fun q => by omega, fun _ => FT_line (FT_body (by rw [sBd_n (ob_nk hG (by omega))]; exact FT_fail h0 (by decide) hq19.2.1 (hq19.2.2.trans g10)))⟩⟩
  · skip
    refine zs_aload_n (pc := 8) C dX9_lineRead_8 rfl ?_
    refine zs_geti (r := 1009) (pc := 9) C dX9_lineRead_9 w_X9_207 f_10_9 rfl (r_1009 0) (fun v9 e9 l9 u9 => ?_)
    refine zs_bipush (pc := 12) C dX9_lineRead_12 (by decide) (by decide) ?_
    refine zs_icmp_le (tgt := 23) (pc := 14) C dX9_lineRead_14 (by decide) (fun h14 => ?_) (fun h14 => ?_)
    · skip
      have J321 : ∀ (x1 : Int) (G1 : zH), (zsm [1007, 1008, 1009, 1010, 1004, 1005, 1011, 2063, 2064, 2065, 1018, 2066, 2067, 2068, 2069, 1019, 2074, 2075, 2076, 2078, 1043, 1021, 2077, 1042, 1044, 1045, 1046, 1047, 2071, 2072, 2073, 2061, 2062, 1017, 2070, 1020, 2060, 2059] G G1) → (MI Γ w G1) → (x1 = 0 ∨ x1 = 1) → (x1 = 1 → RC Γ w G1 ∧ gR b n Γ w (sBody b n A) G1 ∧ G.1 1010 w 0 < G1.1 1010 w 0) → (x1 = 0 → FT w (sSemi b n (sBody b n A)) G1) → (LJr G G1) → Z p l e (zrm 5) s m args below meth c Γ 3 0 0 (MQ below (zQc Γ (zpi (fun x G' => zsm [1007, 1008, 1009, 1010, 1004, 1005, 1011, 2063, 2064, 2065, 1018, 2066, 2067, 2068, 2069, 1019, 2074, 2075, 2076, 2078, 1043, 1021, 2077, 1042, 1044, 1045, 1046, 1047, 2071, 2072, 2073, 2061, 2062, 1017, 2070, 1020, 2060, 2059] G G' ∧ LJr G G' ∧ ((x = 0 ∨ x = 1) ∧ MI Γ w G' ∧ (x = 1 → RC Γ w G' ∧ gR b n Γ w (sLine b n A) G' ∧ G.1 1010 w 0 < G'.1 1010 w 0) ∧ (x = 0 → FT w (sLine b n A) G'))))) args s 0 0 (zA Γ)) 321 [some (zr 10 w), some (zi x1), none] [] G1 := by
        intro x1 G1 h321_0 h321_1 h321_2 h321_3 h321_4 h321_5
        refine zs_iload_n (pc := 321) C dX9_lineRead_321 rfl ?_
        refine zs_if_ne (tgt := 327) (pc := 322) C dX9_lineRead_322 (by decide) (fun h322 => ?_) (fun h322 => ?_)
        · skip
          have hx := h321_3 (by omega)
          have hRC1 := hx.1
          have hR1 := hx.2.1
          have hat := hx.2.2
          have hg1 := hR1.1
          refine zs_aload_n (pc := 327) C dX9_lineRead_327 rfl ?_
          refine zs_bipush (pc := 328) C dX9_lineRead_328 (by decide) (by decide) ?_
          refine zVip1 (pc := 330) C dX9_lineRead_330 v_X9_233 (c_X9_isSignG hX ) (by decide) (by decide) ⟨Nat.zero_le _, Nat.zero_le _⟩ (Nat.le_of_ble_eq_true rfl) (fun x330 l330 u330 hp330 => ?_)
          have hq330 := hp330
          have z330 := hq330.2.trans (gT_sig hg1 (c := 59) (s := 17) (by omega))
          have y330 := hq330.1
          clear hq330 hp330
          refine zs_if_ne (tgt := 342) (pc := 333) C dX9_lineRead_333 (by decide) (fun h333 => ?_) (fun h333 => ?_)
          · skip
            refine zs_aload_n (pc := 342) C dX9_lineRead_342 rfl ?_
            refine zVv0 (pc := 343) C dX9_lineRead_343 v_X9_230 (c_X9_tokenGY hX hg1) (by decide) (by decide) ⟨Nat.zero_le _, Nat.zero_le _⟩ (Nat.le_of_ble_eq_true rfl) (fun G343 hp343 => ?_)
            obtain ⟨hz343, lo343, hq343⟩ := hp343
            have tr343_1017 := zsm_at hz343 1017 w 0 (by decide)
            try simp only [zuI_1, zuI_2, zuJ_1, zuJ_2, zuJ_3, zuP_1, zuP_2, zuP_3, zuC_1, zuC_2, reduceIte, Nat.reduceEqDiff, false_and, and_false, true_and, and_true, and_self, or_true, true_or, or_false, false_or] at tr343_1017
            have tr343_1020 := zsm_at hz343 1020 w 0 (by decide)
            try simp only [zuI_1, zuI_2, zuJ_1, zuJ_2, zuJ_3, zuP_1, zuP_2, zuP_3, zuC_1, zuC_2, reduceIte, Nat.reduceEqDiff, false_and, and_false, true_and, and_true, and_self, or_true, true_or, or_false, false_or] at tr343_1020
            refine zs_iconst (pc := 346) C dX9_lineRead_346 (by decide) ?_
            exact zs_zret (pc := 347) C hr hlk dX9_lineRead_347 (by omega) ⟨by repeat (first | exact zsm_rf | assumption | refine zsm_C (by decide) ?_ | refine zsm_I (by decide) ?_ | refine zsm_J ?_ | refine zsm_c (by assumption) (by decide) ?_), (by with_reducible repeat (first | exact LJr_rf | assumption | refine LJr_I (h := 0) (by decide) (Nat.zero_le _) ?_ | refine LJr_I (h := 3) (by decide) (by omega) ?_ | refine LJr_I (h := 4) (by decide) (by omega) ?_ | refine LJr_I (h := 5) (by decide) (by omega) ?_ | refine LJr_I (h := 7) (by decide) (by omega) ?_ | refine LJr_I (h := 20) (by decide) (by omega) ?_ | refine LJr_I (h := 64) (by decide) (by omega) ?_ | refine LJr_c (by assumption) ?_)), ⟨by omega, (by repeat (first | assumption | refine MI_I (by decide) ?_ | refine MI_J ?_ | refine MI_sm (by assumption) (by decide) ?_ | refine MI_sn (by assumption) (by decide) ?_)), fun _ => (by
                  have hz := z330.mp (by omega)
                  have hS9 : sLine b n A = sNext b n (sBody b n A) := (by unfold sLine; rw [show sSemi b n (sBody b n A) = sBody b n A from if_pos hz]; exact if_pos hR1.2.1.1)
                  rw [hS9]
                  have a9 := gT_mono hg1 hq343
                  exact ⟨(by repeat (first | assumption | refine RC_I (by decide) ?_ | refine RC_sm (by assumption) (by decide) ?_)), gR_sm hz343 hR1 hq343 (fun f j q => sNext_f q), by omega⟩), fun q => by omega⟩⟩
          · skip
            refine zs_aload_n (pc := 336) C dX9_lineRead_336 rfl ?_
            refine zs_iconst (pc := 337) C dX9_lineRead_337 (by decide) ?_
            refine zVi1 (pc := 338) C dX9_lineRead_338 v_X9_220 (c_X9_wrongY hX ) (by decide) (by decide) ⟨Nat.zero_le _, Nat.zero_le _⟩ (Nat.le_of_ble_eq_true rfl) (fun x338 G338 l338 u338 hp338 => ?_)
            obtain ⟨hz338, lo338, hq338⟩ := hp338
            have tr338_1017 := zsm_at hz338 1017 w 0 (by decide)
            try simp only [zuI_1, zuI_2, zuJ_1, zuJ_2, zuJ_3, zuP_1, zuP_2, zuP_3, zuC_1, zuC_2, reduceIte, Nat.reduceEqDiff, false_and, and_false, true_and, and_true, and_self, or_true, true_or, or_false, false_or] at tr338_1017
            have tr338_1020 := zsm_at hz338 1020 w 0 (by decide)
            try simp only [zuI_1, zuI_2, zuJ_1, zuJ_2, zuJ_3, zuP_1, zuP_2, zuP_3, zuC_1, zuC_2, reduceIte, Nat.reduceEqDiff, false_and, and_false, true_and, and_true, and_self, or_true, true_or, or_false, false_or] at tr338_1020
            have tr338_1010 := zsm_at hz338 1010 w 0 (by decide)
            try simp only [zuI_1, zuI_2, zuJ_1, zuJ_2, zuJ_3, zuP_1, zuP_2, zuP_3, zuC_1, zuC_2, reduceIte, Nat.reduceEqDiff, false_and, and_false, true_and, and_true, and_self, or_true, true_or, or_false, false_or] at tr338_1010
            exact zs_zret (pc := 341) C hr hlk dX9_lineRead_341 (by omega) ⟨by repeat (first | exact zsm_rf | assumption | refine zsm_C (by decide) ?_ | refine zsm_I (by decide) ?_ | refine zsm_J ?_ | refine zsm_c (by assumption) (by decide) ?_), (by with_reducible repeat (first | exact LJr_rf | assumption | refine LJr_I (h := 0) (by decide) (Nat.zero_le _) ?_ | refine LJr_I (h := 3) (by decide) (by omega) ?_ | refine LJr_I (h := 4) (by decide) (by omega) ?_ | refine LJr_I (h := 5) (by decide) (by omega) ?_ | refine LJr_I (h := 7) (by decide) (by omega) ?_ | refine LJr_I (h := 20) (by decide) (by omega) ?_ | refine LJr_I (h := 64) (by decide) (by omega) ?_ | refine LJr_c (by assumption) ?_)), ⟨by omega, (by repeat (first | assumption | refine MI_I (by decide) ?_ | refine MI_J ?_ | refine MI_sm (by assumption) (by decide) ?_ | refine MI_sn (by assumption) (by decide) ?_)), fun q => by omega, fun _ => FT_line (by rw [show sSemi b n (sBody b n A) = sFail b n 1 (sBody b n A) from if_neg (fun q => by have q2 := z330.mpr q; omega)]; exact FT_fail hR1.2.1.1 (by decide) hq338.2.1 (hq338.2.2.trans hg1.2.2.2.2.1))⟩⟩
        · skip
          refine zs_iconst (pc := 325) C dX9_lineRead_325 (by decide) ?_
          exact zs_zret (pc := 326) C hr hlk dX9_lineRead_326 (by omega) ⟨by repeat (first | exact zsm_rf | assumption | refine zsm_C (by decide) ?_ | refine zsm_I (by decide) ?_ | refine zsm_J ?_ | refine zsm_c (by assumption) (by decide) ?_), (by with_reducible repeat (first | exact LJr_rf | assumption | refine LJr_I (h := 0) (by decide) (Nat.zero_le _) ?_ | refine LJr_I (h := 3) (by decide) (by omega) ?_ | refine LJr_I (h := 4) (by decide) (by omega) ?_ | refine LJr_I (h := 5) (by decide) (by omega) ?_ | refine LJr_I (h := 7) (by decide) (by omega) ?_ | refine LJr_I (h := 20) (by decide) (by omega) ?_ | refine LJr_I (h := 64) (by decide) (by omega) ?_ | refine LJr_c (by assumption) ?_)), ⟨by omega, h321_1, fun q => by omega, fun _ => FT_line (h321_4 (by omega))⟩⟩
      have kw := ob_kw hG (by omega) (by omega)
      refine zs_aload_n (pc := 23) C dX9_lineRead_23 rfl ?_
      refine zs_geti (r := 1009) (pc := 24) C dX9_lineRead_24 w_X9_207 f_10_9 rfl (r_1009 0) (fun v24 e24 l24 u24 => ?_)
      refine zs_name (fun y27 ey27 => ?_)
      rcases (show y27 = 0 ∨ y27 = 1 ∨ y27 = 2 ∨ y27 = 3 ∨ y27 = 4 ∨ y27 = 5 ∨ y27 = 6 ∨ y27 = 7 ∨ y27 = 8 ∨ (y27 < 0 ∨ 8 < y27) by omega) with h27 | h27 | h27 | h27 | h27 | h27 | h27 | h27 | h27 | h27
      · skip
        refine zs_tabIn (pc := 27) (tgt := 76) C 0 dX9_lineRead_27 h27 (by decide) rfl (by decide) ?_
        refine zs_aload_n (pc := 76) C dX9_lineRead_76 rfl ?_
        refine zs_geti (r := 1017) (pc := 77) C dX9_lineRead_77 w_X9_240 f_10_17 rfl (r_1017 0) (fun v77 e77 l77 u77 => ?_)
        refine zs_iconst (pc := 80) C dX9_lineRead_80 (by decide) ?_
        refine zs_icmp_ne (tgt := 90) (pc := 81) C dX9_lineRead_81 (by decide) (fun h81 => ?_) (fun h81 => ?_)
        · skip
          refine zs_aload_n (pc := 90) C dX9_lineRead_90 rfl ?_
          refine zVv0 (pc := 91) C dX9_lineRead_91 v_X9_230 (c_X9_tokenGY hX hG) (by decide) (by decide) ⟨Nat.zero_le _, Nat.zero_le _⟩ (Nat.le_of_ble_eq_true rfl) (fun G91 hp91 => ?_)
          obtain ⟨hz91, lo91, hq91⟩ := hp91
          have tr91_1017 := zsm_at hz91 1017 w 0 (by decide)
          try simp only [zuI_1, zuI_2, zuJ_1, zuJ_2, zuJ_3, zuP_1, zuP_2, zuP_3, zuC_1, zuC_2, reduceIte, Nat.reduceEqDiff, false_and, and_false, true_and, and_true, and_self, or_true, true_or, or_false, false_or] at tr91_1017
          have tr91_1020 := zsm_at hz91 1020 w 0 (by decide)
          try simp only [zuI_1, zuI_2, zuJ_1, zuJ_2, zuJ_3, zuP_1, zuP_2, zuP_3, zuC_1, zuC_2, reduceIte, Nat.reduceEqDiff, false_and, and_false, true_and, and_true, and_self, or_true, true_or, or_false, false_or] at tr91_1020
          refine zs_aload_n (pc := 94) C dX9_lineRead_94 rfl ?_
          refine zs_aload_n (pc := 95) C dX9_lineRead_95 rfl ?_
          refine zs_getf (pc := 96) C dX9_lineRead_96 w_X9_27 f_10_24 (by decide) ?_
          refine zs_iconst (pc := 99) C dX9_lineRead_99 (by decide) ?_
          refine zs_aload_n (pc := 100) C dX9_lineRead_100 rfl ?_
          refine zs_geti (r := 1017) (pc := 101) C dX9_lineRead_101 w_X9_240 f_10_17 rfl (r_1017 0) (fun v101 e101 l101 u101 => ?_)
          have hn9 : ¬ mst 0 ≤ A 4 (0 : Int).toNat := by rw [mc.1]; show ¬ (4 : Int) ≤ A 4 0; omega
          have hfd : fndn (G91.1 2061 (Γ.2.1 w 24)) 4 (tV b n (sNext b n A)) v101.toNat 0 = sFind 0 (tV b n (sNext b n A)) (sNext b n A) := by
            unfold sFind
            rw [sNext_f (by decide), show A 4 (0 : Int).toNat = v101 from (by show A 4 0 = v101; omega)]
            refine fnd_nm (p := 4) (q := 0) rfl rfl (fun j hj => ?_)
            rw [hz91.1 2061 (by decide), sNext_f (by decide)]
            rw [Nat.zero_add]
            exact (hs9.2.2.2 j (by omega)).1
          refine zVi3 (pc := 104) C dX9_lineRead_104 v_X9_284 (c_X9_newName61Y hX hq91 (by omega) (by omega)) (by decide) (by decide) ⟨Nat.zero_le _, Nat.zero_le _⟩ (Nat.le_of_ble_eq_true rfl) (fun x104 G104 l104 u104 hp104 => ?_)
          obtain ⟨hz104, lo104, hq104⟩ := hp104
          have tr104_1017 := zsm_at hz104 1017 w 0 (by decide)
          try simp only [zuI_1, zuI_2, zuJ_1, zuJ_2, zuJ_3, zuP_1, zuP_2, zuP_3, zuC_1, zuC_2, reduceIte, Nat.reduceEqDiff, false_and, and_false, true_and, and_true, and_self, or_true, true_or, or_false, false_or] at tr104_1017
          have tr104_1020 := zsm_at hz104 1020 w 0 (by decide)
          try simp only [zuI_1, zuI_2, zuJ_1, zuJ_2, zuJ_3, zuP_1, zuP_2, zuP_3, zuC_1, zuC_2, reduceIte, Nat.reduceEqDiff, false_and, and_false, true_and, and_true, and_self, or_true, true_or, or_false, false_or] at tr104_1020
          refine zs_if_eq (tgt := 120) (pc := 107) C dX9_lineRead_107 (by decide) (fun h107 => ?_) (fun h107 => ?_)
          · skip
            refine zs_iconst (pc := 120) C dX9_lineRead_120 (by decide) ?_
            exact zs_zret (pc := 121) C hr hlk dX9_lineRead_121 (by omega) ⟨by repeat (first | exact zsm_rf | assumption | refine zsm_C (by decide) ?_ | refine zsm_I (by decide) ?_ | refine zsm_J ?_ | refine zsm_c (by assumption) (by decide) ?_), (by with_reducible repeat (first | exact LJr_rf | assumption | refine LJr_I (h := 0) (by decide) (Nat.zero_le _) ?_ | refine LJr_I (h := 3) (by decide) (by omega) ?_ | refine LJr_I (h := 4) (by decide) (by omega) ?_ | refine LJr_I (h := 5) (by decide) (by omega) ?_ | refine LJr_I (h := 7) (by decide) (by omega) ?_ | refine LJr_I (h := 20) (by decide) (by omega) ?_ | refine LJr_I (h := 64) (by decide) (by omega) ?_ | refine LJr_c (by assumption) ?_)), ⟨by omega, (by repeat (first | assumption | refine MI_I (by decide) ?_ | refine MI_J ?_ | refine MI_sm (by assumption) (by decide) ?_ | refine MI_sn (by assumption) (by decide) ?_)), fun q => by omega, fun _ => FT_line (FT_body (by rw [sBd_0 (by omega)]; first | (have hFN := hq114.2.1 (by omega); rw [sSin_1 hFN.1]; exact hFN) | (have hFN := sNew_F h0 hn9 hfd (hq104.2.1 (by omega)); rw [sSin_0 hFN.1]; exact hFN)))⟩⟩
          · skip
            have hk9 := hq104.2.2 (by omega)
            have hso := sNew_ok (b := b) (n := n) (kd := 0) (A := A) hn9 hk9.1 (by rw [← hfd]; exact hk9.2.1)
            have he := hso.1
            have hgn := sNew_T he hk9.2.2.2.1
            have hn1 : (sNew b n 0 A) 1 0 = 0 := by rw [sNew_1f (by decide) (by decide) (by decide) he]; exact h0
            refine zs_aload_n (pc := 110) C dX9_lineRead_110 rfl ?_
            refine zs_iconst (pc := 111) C dX9_lineRead_111 (by decide) ?_
            refine zs_bipush (pc := 112) C dX9_lineRead_112 (by decide) (by decide) ?_
            refine zVi2 (pc := 114) C dX9_lineRead_114 v_X9_236 (c_X9_numberY hX hgn hn1 (by decide)) (by decide) (by decide) ⟨Nat.zero_le _, Nat.zero_le _⟩ (Nat.le_of_ble_eq_true rfl) (fun x114 G114 l114 u114 hp114 => ?_)
            obtain ⟨hz114, lo114, hq114⟩ := hp114
            have tr114_1017 := zsm_at hz114 1017 w 0 (by decide)
            try simp only [zuI_1, zuI_2, zuJ_1, zuJ_2, zuJ_3, zuP_1, zuP_2, zuP_3, zuC_1, zuC_2, reduceIte, Nat.reduceEqDiff, false_and, and_false, true_and, and_true, and_self, or_true, true_or, or_false, false_or] at tr114_1017
            have tr114_1020 := zsm_at hz114 1020 w 0 (by decide)
            try simp only [zuI_1, zuI_2, zuJ_1, zuJ_2, zuJ_3, zuP_1, zuP_2, zuP_3, zuC_1, zuC_2, reduceIte, Nat.reduceEqDiff, false_and, and_false, true_and, and_true, and_self, or_true, true_or, or_false, false_or] at tr114_1020
            refine zs_if_ne (tgt := 122) (pc := 117) C dX9_lineRead_117 (by decide) (fun h117 => ?_) (fun h117 => ?_)
            · skip
              refine zs_aload_n (pc := 122) C dX9_lineRead_122 rfl ?_
              refine zs_getf (pc := 123) C dX9_lineRead_123 w_X9_30 f_10_25 (by decide) ?_
              refine zs_iconst (pc := 126) C dX9_lineRead_126 (by decide) ?_
              refine zs_aload_n (pc := 127) C dX9_lineRead_127 rfl ?_
              refine zs_geti (r := 1017) (pc := 128) C dX9_lineRead_128 w_X9_240 f_10_17 rfl (r_1017 0) (fun v128 e128 l128 u128 => ?_)
              first | refine zs_iadd (pc := 131) C dX9_lineRead_131 (by omega) ?_ | refine zs_iaddF (pc := 131) C dX9_lineRead_131 (fun z131 hz1311 hz1312 => ?_)
              refine zs_aload_n (pc := 132) C dX9_lineRead_132 rfl ?_
              refine zs_geti (r := 1011) (pc := 133) C dX9_lineRead_133 w_X9_227 f_10_11 rfl (r_1011 0) (fun v133 e133 l133 u133 => ?_)
              refine zs_iast (r := 2062) (pc := 136) C dX9_lineRead_136 a_62 (by decide) (by omega) rfl (r_2062 _) (by omega) ?_
              refine zs_aload_n (pc := 137) C dX9_lineRead_137 rfl ?_
              refine zs_dupa (pc := 138) C dX9_lineRead_138 ?_
              refine zs_geti (r := 1017) (pc := 139) C dX9_lineRead_139 w_X9_240 f_10_17 rfl (r_1017 0) (fun v139 e139 l139 u139 => ?_)
              try simp only [zuI_1, zuI_2, zuJ_1, zuJ_2, zuJ_3, zuP_1, zuP_2, zuP_3, zuC_1, zuC_2, reduceIte, Nat.reduceEqDiff, false_and, and_false, true_and, and_true, and_self, or_true, true_or, or_false, false_or] at e139
              refine zs_iconst (pc := 142) C dX9_lineRead_142 (by decide) ?_
              first | refine zs_iadd (pc := 143) C dX9_lineRead_143 (by omega) ?_ | refine zs_iaddF (pc := 143) C dX9_lineRead_143 (fun z143 hz1431 hz1432 => ?_)
              refine zs_puti (r := 1017) (pc := 144) C dX9_lineRead_144 w_X9_240 f_10_17 rfl (r_1017 0) (by omega) ?_
              have k114 := hq114.2.2 (by omega)
              have o114 := sNum_ok (b := b) (n := n) (lo := 0) (hi := 99) (A := sNew b n 0 A) hn1 k114.1 (by omega)
              have hH : sSin b n A = up (sNext b n (sNew b n 0 A)) 6 (A 4 0).toNat (tV b n (sNew b n 0 A)) := by
                unfold sSin
                rw [o114.1, o114.2, if_pos (by rw [sNext_f (by decide)]; exact hn1), show sNewV b n 0 A = A 4 0 from hso.2]
              have w104 := hk9.2.2.1
              have k104 := hk9.2.2.2.2
              have k114b := k114.2.2.2.2.2
              have f114 := k114.2.2.2.1
              have t91a := zsm_at hz91 1004 w 0 (by decide)
              have t91b := zsm_at hz91 1005 w 0 (by decide)
              have a1 := gT_adv hG hq91 (by omega)
              have a2 : G91.1 1010 w 0 ≤ G104.1 1010 w 0 := gT_mono hq91 hk9.2.2.2.1
              have a3 : G104.1 1010 w 0 ≤ G114.1 1010 w 0 := gT_mono hgn k114.2.2.2.2.1
              have hFa := hF.2.1
              have hFb := hF.2.2
              refine zs_heap (P := fun G9 => zsm [1007, 1008, 1009, 1010, 1004, 1005, 1011, 2061, 2062, 1017] G G9 ∧ LJr G G9 ∧ gR b n Γ w (sBody b n A) G9 ∧ G.1 1010 w 0 < G9.1 1010 w 0) ⟨(by repeat (first | exact zsm_rf | assumption | refine zsm_C (by decide) ?_ | refine zsm_I (by decide) ?_ | refine zsm_J ?_ | refine zsm_c (by assumption) (by decide) ?_)), (by with_reducible repeat (first | exact LJr_rf | assumption | refine LJr_I (h := 0) (by decide) (Nat.zero_le _) ?_ | refine LJr_I (h := 3) (by decide) (by omega) ?_ | refine LJr_I (h := 4) (by decide) (by omega) ?_ | refine LJr_I (h := 5) (by decide) (by omega) ?_ | refine LJr_I (h := 7) (by decide) (by omega) ?_ | refine LJr_I (h := 20) (by decide) (by omega) ?_ | refine LJr_I (h := 64) (by decide) (by omega) ?_ | refine LJr_c (by assumption) ?_)), ?_, ?_⟩ (fun G9 hG9 => ?_)
              · rw [sBd_0 (by omega)]
                refine gR_sin (c := tV b n (sNext b n A)) (v := tV b n (sNew b n 0 A)) (by repeat (first | exact zsm_rf | assumption | refine zsm_C (by decide) ?_ | refine zsm_I (by decide) ?_ | refine zsm_J ?_ | refine zsm_c (by assumption) (by decide) ?_)) hR0 (gT_A (A := sNext b n (sNew b n 0 A)) (by rw [hH, up_f (by decide)]) (gT_I (by decide) (gT_I (by decide) k114.2.2.2.2.1))) ⟨by rw [hH, up_f (by decide), sNext_f (by decide)]; exact hn1, (by first | omega | (simp only [zuI_1, zuI_2, zuJ_1, zuJ_2, zuJ_3, zuP_1, zuP_2, zuP_3, zuC_1, zuC_2, reduceIte, Nat.reduceEqDiff, false_and, and_false, true_and, and_true, and_self, or_true, true_or, or_false, false_or] <;> omega)), (by rw [hH, up_f (by decide), sNext_f (by decide), sNew_1f (by decide) (by decide) (by decide) he]; first | omega | (simp only [zuI_1, zuI_2, zuJ_1, zuJ_2, zuJ_3, zuP_1, zuP_2, zuP_3, zuC_1, zuC_2, reduceIte, Nat.reduceEqDiff, false_and, and_false, true_and, and_true, and_self, or_true, true_or, or_false, false_or] <;> omega))⟩ (fun j => ?_) (fun j => ?_) (fun f j q0 q4 q5 q6 => ?_) (by omega) (fun j => ?_) (by first | omega | (simp only [zuI_1, zuI_2, zuJ_1, zuJ_2, zuJ_3, zuP_1, zuP_2, zuP_3, zuC_1, zuC_2, reduceIte, Nat.reduceEqDiff, false_and, and_false, true_and, and_true, and_self, or_true, true_or, or_false, false_or] <;> omega)) (fun j => ?_) (fun j => ?_)
                · rw [hH, up_f (by decide), sNext_f (by decide)]; exact (sNew_4f he).1
                · rw [hH, up_f (by decide), sNext_f (by decide)]; exact (sNew_4f he).2
                · rw [hH, up_f q6, sNext_f q0, sNew_1f q0 q4 q5 he]
                · rw [hH, up_at, sNext_f (by decide), sNew_1f (by decide) (by decide) (by decide) he]
                · rw [zuI_nf (by decide), zuI_nf (by decide), hz114.1 2061 (by decide), w104 j, hz91.1 2061 (by decide), show (4 + v101).toNat = (4 + A 4 0).toNat by omega]
                · simp only [zuI_1, zuI_2, zuJ_1, zuJ_2, zuJ_3, zuP_1, zuP_2, zuP_3, zuC_1, zuC_2, reduceIte, Nat.reduceEqDiff, false_and, and_false, true_and, and_true, and_self, or_true, true_or, or_false, false_or]
                  rw [hz114.1 2062 (by decide), hz104.1 2062 (by decide), hz91.1 2062 (by decide), show (4 + v128).toNat = (4 + A 4 0).toNat by omega, show v133 = tV b n (sNew b n 0 A) by omega]
              · first | omega | (simp only [zuI_1, zuI_2, zuJ_1, zuJ_2, zuJ_3, zuP_1, zuP_2, zuP_3, zuC_1, zuC_2, reduceIte, Nat.reduceEqDiff, false_and, and_false, true_and, and_true, and_self, or_true, true_or, or_false, false_or] <;> omega)
              obtain ⟨hh1, lwG9, hh2, hh3⟩ := hG9
              refine zs_iconst (pc := 147) C dX9_lineRead_147 (by decide) ?_
              refine zs_istore_n (pc := 148) C dX9_lineRead_148 (by decide) ?_
              dsimp only [zset, zclr, znone]
              refine zs_goto (tgt := 321) (pc := 149) C dX9_lineRead_149 (by decide) ?_
              exact zs_wk (J321 _ _ (by repeat (first | exact zsm_rf | assumption | refine zsm_C (by decide) ?_ | refine zsm_I (by decide) ?_ | refine zsm_J ?_ | refine zsm_c (by assumption) (by decide) ?_)) (by repeat (first | assumption | refine MI_I (by decide) ?_ | refine MI_J ?_ | refine MI_sm (by assumption) (by decide) ?_ | refine MI_sn (by assumption) (by decide) ?_)) (by omega) (by first | exact hxx | exact fun _ => ⟨(by repeat (first | assumption | refine RC_I (by decide) ?_ | refine RC_sm (by assumption) (by decide) ?_)), hh2, hh3⟩) (by first | exact hyy | (intro q; omega)) (by with_reducible repeat (first | exact LJr_rf | assumption | refine LJr_I (h := 0) (by decide) (Nat.zero_le _) ?_ | refine LJr_I (h := 3) (by decide) (by omega) ?_ | refine LJr_I (h := 4) (by decide) (by omega) ?_ | refine LJr_I (h := 5) (by decide) (by omega) ?_ | refine LJr_I (h := 7) (by decide) (by omega) ?_ | refine LJr_I (h := 20) (by decide) (by omega) ?_ | refine LJr_I (h := 64) (by decide) (by omega) ?_ | refine LJr_c (by assumption) ?_))) (zwk_s rfl (zwk_s rfl (zwk_n zwk_0)))
            · skip
              refine zs_iconst (pc := 120) C dX9_lineRead_120 (by decide) ?_
              exact zs_zret (pc := 121) C hr hlk dX9_lineRead_121 (by omega) ⟨by repeat (first | exact zsm_rf | assumption | refine zsm_C (by decide) ?_ | refine zsm_I (by decide) ?_ | refine zsm_J ?_ | refine zsm_c (by assumption) (by decide) ?_), (by with_reducible repeat (first | exact LJr_rf | assumption | refine LJr_I (h := 0) (by decide) (Nat.zero_le _) ?_ | refine LJr_I (h := 3) (by decide) (by omega) ?_ | refine LJr_I (h := 4) (by decide) (by omega) ?_ | refine LJr_I (h := 5) (by decide) (by omega) ?_ | refine LJr_I (h := 7) (by decide) (by omega) ?_ | refine LJr_I (h := 20) (by decide) (by omega) ?_ | refine LJr_I (h := 64) (by decide) (by omega) ?_ | refine LJr_c (by assumption) ?_)), ⟨by omega, (by repeat (first | assumption | refine MI_I (by decide) ?_ | refine MI_J ?_ | refine MI_sm (by assumption) (by decide) ?_ | refine MI_sn (by assumption) (by decide) ?_)), fun q => by omega, fun _ => FT_line (FT_body (by rw [sBd_0 (by omega)]; first | (have hFN := hq114.2.1 (by omega); rw [sSin_1 hFN.1]; exact hFN) | (have hFN := sNew_F h0 hn9 hfd (hq104.2.1 (by omega)); rw [sSin_0 hFN.1]; exact hFN)))⟩⟩
        · skip
          refine zs_aload_n (pc := 84) C dX9_lineRead_84 rfl ?_
          refine zs_iconst (pc := 85) C dX9_lineRead_85 (by decide) ?_
          refine zVi1 (pc := 86) C dX9_lineRead_86 v_X9_220 (c_X9_wrongY hX ) (by decide) (by decide) ⟨Nat.zero_le _, Nat.zero_le _⟩ (Nat.le_of_ble_eq_true rfl) (fun x86 G86 l86 u86 hp86 => ?_)
          obtain ⟨hz86, lo86, hq86⟩ := hp86
          have tr86_1017 := zsm_at hz86 1017 w 0 (by decide)
          try simp only [zuI_1, zuI_2, zuJ_1, zuJ_2, zuJ_3, zuP_1, zuP_2, zuP_3, zuC_1, zuC_2, reduceIte, Nat.reduceEqDiff, false_and, and_false, true_and, and_true, and_self, or_true, true_or, or_false, false_or] at tr86_1017
          have tr86_1020 := zsm_at hz86 1020 w 0 (by decide)
          try simp only [zuI_1, zuI_2, zuJ_1, zuJ_2, zuJ_3, zuP_1, zuP_2, zuP_3, zuC_1, zuC_2, reduceIte, Nat.reduceEqDiff, false_and, and_false, true_and, and_true, and_self, or_true, true_or, or_false, false_or] at tr86_1020
          have tr86_1010 := zsm_at hz86 1010 w 0 (by decide)
          try simp only [zuI_1, zuI_2, zuJ_1, zuJ_2, zuJ_3, zuP_1, zuP_2, zuP_3, zuC_1, zuC_2, reduceIte, Nat.reduceEqDiff, false_and, and_false, true_and, and_true, and_self, or_true, true_or, or_false, false_or] at tr86_1010
          exact zs_zret (pc := 89) C hr hlk dX9_lineRead_89 (by omega) ⟨by repeat (first | exact zsm_rf | assumption | refine zsm_C (by decide) ?_ | refine zsm_I (by decide) ?_ | refine zsm_J ?_ | refine zsm_c (by assumption) (by decide) ?_), (by with_reducible repeat (first | exact LJr_rf | assumption | refine LJr_I (h := 0) (by decide) (Nat.zero_le _) ?_ | refine LJr_I (h := 3) (by decide) (by omega) ?_ | refine LJr_I (h := 4) (by decide) (by omega) ?_ | refine LJr_I (h := 5) (by decide) (by omega) ?_ | refine LJr_I (h := 7) (by decide) (by omega) ?_ | refine LJr_I (h := 20) (by decide) (by omega) ?_ | refine LJr_I (h := 64) (by decide) (by omega) ?_ | refine LJr_c (by assumption) ?_)), ⟨by omega, (by repeat (first | assumption | refine MI_I (by decide) ?_ | refine MI_J ?_ | refine MI_sm (by assumption) (by decide) ?_ | refine MI_sn (by assumption) (by decide) ?_)), fun q => by omega, fun _ => FT_line (FT_body (by rw [sBd_0 (by omega), sSin_0 (by rw [sNew_full (by rw [mc.1]; show (4 : Int) ≤ A 4 0; omega)]; exact sFail_f (by decide)), sNew_full (by rw [mc.1]; show (4 : Int) ≤ A 4 0; omega)]; exact FT_fail h0 (by decide) hq86.2.1 (hq86.2.2.trans g10)))⟩⟩
      · skip
        refine zs_tabIn (pc := 27) (tgt := 152) C 1 dX9_lineRead_27 h27 (by decide) rfl (by decide) ?_
        refine zs_aload_n (pc := 152) C dX9_lineRead_152 rfl ?_
        refine zVi0 (pc := 153) C dX9_lineRead_153 v_X9_295 (c_X9_personLineY hX hR0 (by omega) hn7) (by decide) (by decide) ⟨Nat.zero_le _, Nat.zero_le _⟩ (Nat.le_of_ble_eq_true rfl) (fun x153 G153 l153 u153 hp153 => ?_)
        obtain ⟨hz153, lo153, hq153⟩ := hp153
        have tr153_1017 := zsm_at hz153 1017 w 0 (by decide)
        try simp only [zuI_1, zuI_2, zuJ_1, zuJ_2, zuJ_3, zuP_1, zuP_2, zuP_3, zuC_1, zuC_2, reduceIte, Nat.reduceEqDiff, false_and, and_false, true_and, and_true, and_self, or_true, true_or, or_false, false_or] at tr153_1017
        have tr153_1020 := zsm_at hz153 1020 w 0 (by decide)
        try simp only [zuI_1, zuI_2, zuJ_1, zuJ_2, zuJ_3, zuP_1, zuP_2, zuP_3, zuC_1, zuC_2, reduceIte, Nat.reduceEqDiff, false_and, and_false, true_and, and_true, and_self, or_true, true_or, or_false, false_or] at tr153_1020
        have hxx : x153 = 1 → RC Γ w G153 ∧ gR b n Γ w (sBody b n A) G153 ∧ G.1 1010 w 0 < G153.1 1010 w 0 := fun q => ⟨(by repeat (first | assumption | refine RC_I (by decide) ?_ | refine RC_sm (by assumption) (by decide) ?_)), by rw [sBd_1 (by omega)]; exact (hq153.2.1 q).1, (hq153.2.1 q).2⟩
        have hyy : x153 = 0 → FT w (sSemi b n (sBody b n A)) G153 := fun q => FT_body (by rw [sBd_1 (by omega)]; exact hq153.2.2 q)
        refine zs_istore_n (pc := 156) C dX9_lineRead_156 (by decide) ?_
        dsimp only [zset, zclr, znone]
        refine zs_goto (tgt := 321) (pc := 157) C dX9_lineRead_157 (by decide) ?_
        exact zs_wk (J321 _ _ (by repeat (first | exact zsm_rf | assumption | refine zsm_C (by decide) ?_ | refine zsm_I (by decide) ?_ | refine zsm_J ?_ | refine zsm_c (by assumption) (by decide) ?_)) (by repeat (first | assumption | refine MI_I (by decide) ?_ | refine MI_J ?_ | refine MI_sm (by assumption) (by decide) ?_ | refine MI_sn (by assumption) (by decide) ?_)) (by omega) (by first | exact hxx | exact fun _ => ⟨(by repeat (first | assumption | refine RC_I (by decide) ?_ | refine RC_sm (by assumption) (by decide) ?_)), hh2, hh3⟩) (by first | exact hyy | (intro q; omega)) (by with_reducible repeat (first | exact LJr_rf | assumption | refine LJr_I (h := 0) (by decide) (Nat.zero_le _) ?_ | refine LJr_I (h := 3) (by decide) (by omega) ?_ | refine LJr_I (h := 4) (by decide) (by omega) ?_ | refine LJr_I (h := 5) (by decide) (by omega) ?_ | refine LJr_I (h := 7) (by decide) (by omega) ?_ | refine LJr_I (h := 20) (by decide) (by omega) ?_ | refine LJr_I (h := 64) (by decide) (by omega) ?_ | refine LJr_c (by assumption) ?_))) (zwk_s rfl (zwk_s rfl (zwk_n zwk_0)))
      · skip
        refine zs_tabIn (pc := 27) (tgt := 160) C 2 dX9_lineRead_27 h27 (by decide) rfl (by decide) ?_
        refine zs_aload_n (pc := 160) C dX9_lineRead_160 rfl ?_
        refine zVi0 (pc := 161) C dX9_lineRead_161 v_X9_298 (c_X9_cakeLineY hX hR0 (by omega)) (by decide) (by decide) ⟨Nat.zero_le _, Nat.zero_le _⟩ (Nat.le_of_ble_eq_true rfl) (fun x161 G161 l161 u161 hp161 => ?_)
        obtain ⟨hz161, lo161, hq161⟩ := hp161
        have tr161_1017 := zsm_at hz161 1017 w 0 (by decide)
        try simp only [zuI_1, zuI_2, zuJ_1, zuJ_2, zuJ_3, zuP_1, zuP_2, zuP_3, zuC_1, zuC_2, reduceIte, Nat.reduceEqDiff, false_and, and_false, true_and, and_true, and_self, or_true, true_or, or_false, false_or] at tr161_1017
        have tr161_1020 := zsm_at hz161 1020 w 0 (by decide)
        try simp only [zuI_1, zuI_2, zuJ_1, zuJ_2, zuJ_3, zuP_1, zuP_2, zuP_3, zuC_1, zuC_2, reduceIte, Nat.reduceEqDiff, false_and, and_false, true_and, and_true, and_self, or_true, true_or, or_false, false_or] at tr161_1020
        have hxx : x161 = 1 → RC Γ w G161 ∧ gR b n Γ w (sBody b n A) G161 ∧ G.1 1010 w 0 < G161.1 1010 w 0 := fun q => ⟨(by repeat (first | assumption | refine RC_I (by decide) ?_ | refine RC_sm (by assumption) (by decide) ?_)), by rw [sBd_3 (by omega)]; exact (hq161.2.1 q).1, (hq161.2.1 q).2⟩
        have hyy : x161 = 0 → FT w (sSemi b n (sBody b n A)) G161 := fun q => FT_body (by rw [sBd_3 (by omega)]; exact hq161.2.2 q)
        refine zs_istore_n (pc := 164) C dX9_lineRead_164 (by decide) ?_
        dsimp only [zset, zclr, znone]
        refine zs_goto (tgt := 321) (pc := 165) C dX9_lineRead_165 (by decide) ?_
        exact zs_wk (J321 _ _ (by repeat (first | exact zsm_rf | assumption | refine zsm_C (by decide) ?_ | refine zsm_I (by decide) ?_ | refine zsm_J ?_ | refine zsm_c (by assumption) (by decide) ?_)) (by repeat (first | assumption | refine MI_I (by decide) ?_ | refine MI_J ?_ | refine MI_sm (by assumption) (by decide) ?_ | refine MI_sn (by assumption) (by decide) ?_)) (by omega) (by first | exact hxx | exact fun _ => ⟨(by repeat (first | assumption | refine RC_I (by decide) ?_ | refine RC_sm (by assumption) (by decide) ?_)), hh2, hh3⟩) (by first | exact hyy | (intro q; omega)) (by with_reducible repeat (first | exact LJr_rf | assumption | refine LJr_I (h := 0) (by decide) (Nat.zero_le _) ?_ | refine LJr_I (h := 3) (by decide) (by omega) ?_ | refine LJr_I (h := 4) (by decide) (by omega) ?_ | refine LJr_I (h := 5) (by decide) (by omega) ?_ | refine LJr_I (h := 7) (by decide) (by omega) ?_ | refine LJr_I (h := 20) (by decide) (by omega) ?_ | refine LJr_I (h := 64) (by decide) (by omega) ?_ | refine LJr_c (by assumption) ?_))) (zwk_s rfl (zwk_s rfl (zwk_n zwk_0)))
      · skip
        refine zs_tabIn (pc := 27) (tgt := 310) C 3 dX9_lineRead_27 h27 (by decide) rfl (by decide) ?_
        refine zs_aload_n (pc := 310) C dX9_lineRead_310 rfl ?_
        refine zs_aload_n (pc := 311) C dX9_lineRead_311 rfl ?_
        refine zs_geti (r := 1009) (pc := 312) C dX9_lineRead_312 w_X9_207 f_10_9 rfl (r_1009 0) (fun v312 e312 l312 u312 => ?_)
        refine zs_iconst (pc := 315) C dX9_lineRead_315 (by decide) ?_
        first | refine zs_isub (pc := 316) C dX9_lineRead_316 (by omega) ?_ | refine zs_isubF (pc := 316) C dX9_lineRead_316 (fun z316 hz3161 hz3162 => ?_)
        refine zVi1 (pc := 317) C dX9_lineRead_317 v_X9_304 (c_X9_onceLineY hX hR0 (by omega) (by omega) (by omega)) (by decide) (by decide) ⟨Nat.zero_le _, Nat.zero_le _⟩ (Nat.le_of_ble_eq_true rfl) (fun x317 G317 l317 u317 hp317 => ?_)
        obtain ⟨hz317, lo317, hq317⟩ := hp317
        have tr317_1017 := zsm_at hz317 1017 w 0 (by decide)
        try simp only [zuI_1, zuI_2, zuJ_1, zuJ_2, zuJ_3, zuP_1, zuP_2, zuP_3, zuC_1, zuC_2, reduceIte, Nat.reduceEqDiff, false_and, and_false, true_and, and_true, and_self, or_true, true_or, or_false, false_or] at tr317_1017
        have tr317_1020 := zsm_at hz317 1020 w 0 (by decide)
        try simp only [zuI_1, zuI_2, zuJ_1, zuJ_2, zuJ_3, zuP_1, zuP_2, zuP_3, zuC_1, zuC_2, reduceIte, Nat.reduceEqDiff, false_and, and_false, true_and, and_true, and_self, or_true, true_or, or_false, false_or] at tr317_1020
        have hxx : x317 = 1 → RC Γ w G317 ∧ gR b n Γ w (sBody b n A) G317 ∧ G.1 1010 w 0 < G317.1 1010 w 0 := fun q => ⟨(by repeat (first | assumption | refine RC_I (by decide) ?_ | refine RC_sm (by assumption) (by decide) ?_)), by rw [sBd_o (k := v312 - 3) (by omega) (by omega)]; exact (hq317.2.1 q).1, (hq317.2.1 q).2⟩
        have hyy : x317 = 0 → FT w (sSemi b n (sBody b n A)) G317 := fun q => FT_body (by rw [sBd_o (k := v312 - 3) (by omega) (by omega)]; exact hq317.2.2 q)
        refine zs_istore_n (pc := 320) C dX9_lineRead_320 (by decide) ?_
        dsimp only [zset, zclr, znone]
        exact zs_wk (J321 _ _ (by repeat (first | exact zsm_rf | assumption | refine zsm_C (by decide) ?_ | refine zsm_I (by decide) ?_ | refine zsm_J ?_ | refine zsm_c (by assumption) (by decide) ?_)) (by repeat (first | assumption | refine MI_I (by decide) ?_ | refine MI_J ?_ | refine MI_sm (by assumption) (by decide) ?_ | refine MI_sn (by assumption) (by decide) ?_)) (by omega) (by first | exact hxx | exact fun _ => ⟨(by repeat (first | assumption | refine RC_I (by decide) ?_ | refine RC_sm (by assumption) (by decide) ?_)), hh2, hh3⟩) (by first | exact hyy | (intro q; omega)) (by with_reducible repeat (first | exact LJr_rf | assumption | refine LJr_I (h := 0) (by decide) (Nat.zero_le _) ?_ | refine LJr_I (h := 3) (by decide) (by omega) ?_ | refine LJr_I (h := 4) (by decide) (by omega) ?_ | refine LJr_I (h := 5) (by decide) (by omega) ?_ | refine LJr_I (h := 7) (by decide) (by omega) ?_ | refine LJr_I (h := 20) (by decide) (by omega) ?_ | refine LJr_I (h := 64) (by decide) (by omega) ?_ | refine LJr_c (by assumption) ?_))) (zwk_s rfl (zwk_s rfl (zwk_n zwk_0)))
      · skip
        refine zs_tabIn (pc := 27) (tgt := 310) C 4 dX9_lineRead_27 h27 (by decide) rfl (by decide) ?_
        refine zs_aload_n (pc := 310) C dX9_lineRead_310 rfl ?_
        refine zs_aload_n (pc := 311) C dX9_lineRead_311 rfl ?_
        refine zs_geti (r := 1009) (pc := 312) C dX9_lineRead_312 w_X9_207 f_10_9 rfl (r_1009 0) (fun v312 e312 l312 u312 => ?_)
        refine zs_iconst (pc := 315) C dX9_lineRead_315 (by decide) ?_
        first | refine zs_isub (pc := 316) C dX9_lineRead_316 (by omega) ?_ | refine zs_isubF (pc := 316) C dX9_lineRead_316 (fun z316 hz3161 hz3162 => ?_)
        refine zVi1 (pc := 317) C dX9_lineRead_317 v_X9_304 (c_X9_onceLineY hX hR0 (by omega) (by omega) (by omega)) (by decide) (by decide) ⟨Nat.zero_le _, Nat.zero_le _⟩ (Nat.le_of_ble_eq_true rfl) (fun x317 G317 l317 u317 hp317 => ?_)
        obtain ⟨hz317, lo317, hq317⟩ := hp317
        have tr317_1017 := zsm_at hz317 1017 w 0 (by decide)
        try simp only [zuI_1, zuI_2, zuJ_1, zuJ_2, zuJ_3, zuP_1, zuP_2, zuP_3, zuC_1, zuC_2, reduceIte, Nat.reduceEqDiff, false_and, and_false, true_and, and_true, and_self, or_true, true_or, or_false, false_or] at tr317_1017
        have tr317_1020 := zsm_at hz317 1020 w 0 (by decide)
        try simp only [zuI_1, zuI_2, zuJ_1, zuJ_2, zuJ_3, zuP_1, zuP_2, zuP_3, zuC_1, zuC_2, reduceIte, Nat.reduceEqDiff, false_and, and_false, true_and, and_true, and_self, or_true, true_or, or_false, false_or] at tr317_1020
        have hxx : x317 = 1 → RC Γ w G317 ∧ gR b n Γ w (sBody b n A) G317 ∧ G.1 1010 w 0 < G317.1 1010 w 0 := fun q => ⟨(by repeat (first | assumption | refine RC_I (by decide) ?_ | refine RC_sm (by assumption) (by decide) ?_)), by rw [sBd_o (k := v312 - 3) (by omega) (by omega)]; exact (hq317.2.1 q).1, (hq317.2.1 q).2⟩
        have hyy : x317 = 0 → FT w (sSemi b n (sBody b n A)) G317 := fun q => FT_body (by rw [sBd_o (k := v312 - 3) (by omega) (by omega)]; exact hq317.2.2 q)
        refine zs_istore_n (pc := 320) C dX9_lineRead_320 (by decide) ?_
        dsimp only [zset, zclr, znone]
        exact zs_wk (J321 _ _ (by repeat (first | exact zsm_rf | assumption | refine zsm_C (by decide) ?_ | refine zsm_I (by decide) ?_ | refine zsm_J ?_ | refine zsm_c (by assumption) (by decide) ?_)) (by repeat (first | assumption | refine MI_I (by decide) ?_ | refine MI_J ?_ | refine MI_sm (by assumption) (by decide) ?_ | refine MI_sn (by assumption) (by decide) ?_)) (by omega) (by first | exact hxx | exact fun _ => ⟨(by repeat (first | assumption | refine RC_I (by decide) ?_ | refine RC_sm (by assumption) (by decide) ?_)), hh2, hh3⟩) (by first | exact hyy | (intro q; omega)) (by with_reducible repeat (first | exact LJr_rf | assumption | refine LJr_I (h := 0) (by decide) (Nat.zero_le _) ?_ | refine LJr_I (h := 3) (by decide) (by omega) ?_ | refine LJr_I (h := 4) (by decide) (by omega) ?_ | refine LJr_I (h := 5) (by decide) (by omega) ?_ | refine LJr_I (h := 7) (by decide) (by omega) ?_ | refine LJr_I (h := 20) (by decide) (by omega) ?_ | refine LJr_I (h := 64) (by decide) (by omega) ?_ | refine LJr_c (by assumption) ?_))) (zwk_s rfl (zwk_s rfl (zwk_n zwk_0)))
      · skip
        refine zs_tabIn (pc := 27) (tgt := 310) C 5 dX9_lineRead_27 h27 (by decide) rfl (by decide) ?_
        refine zs_aload_n (pc := 310) C dX9_lineRead_310 rfl ?_
        refine zs_aload_n (pc := 311) C dX9_lineRead_311 rfl ?_
        refine zs_geti (r := 1009) (pc := 312) C dX9_lineRead_312 w_X9_207 f_10_9 rfl (r_1009 0) (fun v312 e312 l312 u312 => ?_)
        refine zs_iconst (pc := 315) C dX9_lineRead_315 (by decide) ?_
        first | refine zs_isub (pc := 316) C dX9_lineRead_316 (by omega) ?_ | refine zs_isubF (pc := 316) C dX9_lineRead_316 (fun z316 hz3161 hz3162 => ?_)
        refine zVi1 (pc := 317) C dX9_lineRead_317 v_X9_304 (c_X9_onceLineY hX hR0 (by omega) (by omega) (by omega)) (by decide) (by decide) ⟨Nat.zero_le _, Nat.zero_le _⟩ (Nat.le_of_ble_eq_true rfl) (fun x317 G317 l317 u317 hp317 => ?_)
        obtain ⟨hz317, lo317, hq317⟩ := hp317
        have tr317_1017 := zsm_at hz317 1017 w 0 (by decide)
        try simp only [zuI_1, zuI_2, zuJ_1, zuJ_2, zuJ_3, zuP_1, zuP_2, zuP_3, zuC_1, zuC_2, reduceIte, Nat.reduceEqDiff, false_and, and_false, true_and, and_true, and_self, or_true, true_or, or_false, false_or] at tr317_1017
        have tr317_1020 := zsm_at hz317 1020 w 0 (by decide)
        try simp only [zuI_1, zuI_2, zuJ_1, zuJ_2, zuJ_3, zuP_1, zuP_2, zuP_3, zuC_1, zuC_2, reduceIte, Nat.reduceEqDiff, false_and, and_false, true_and, and_true, and_self, or_true, true_or, or_false, false_or] at tr317_1020
        have hxx : x317 = 1 → RC Γ w G317 ∧ gR b n Γ w (sBody b n A) G317 ∧ G.1 1010 w 0 < G317.1 1010 w 0 := fun q => ⟨(by repeat (first | assumption | refine RC_I (by decide) ?_ | refine RC_sm (by assumption) (by decide) ?_)), by rw [sBd_o (k := v312 - 3) (by omega) (by omega)]; exact (hq317.2.1 q).1, (hq317.2.1 q).2⟩
        have hyy : x317 = 0 → FT w (sSemi b n (sBody b n A)) G317 := fun q => FT_body (by rw [sBd_o (k := v312 - 3) (by omega) (by omega)]; exact hq317.2.2 q)
        refine zs_istore_n (pc := 320) C dX9_lineRead_320 (by decide) ?_
        dsimp only [zset, zclr, znone]
        exact zs_wk (J321 _ _ (by repeat (first | exact zsm_rf | assumption | refine zsm_C (by decide) ?_ | refine zsm_I (by decide) ?_ | refine zsm_J ?_ | refine zsm_c (by assumption) (by decide) ?_)) (by repeat (first | assumption | refine MI_I (by decide) ?_ | refine MI_J ?_ | refine MI_sm (by assumption) (by decide) ?_ | refine MI_sn (by assumption) (by decide) ?_)) (by omega) (by first | exact hxx | exact fun _ => ⟨(by repeat (first | assumption | refine RC_I (by decide) ?_ | refine RC_sm (by assumption) (by decide) ?_)), hh2, hh3⟩) (by first | exact hyy | (intro q; omega)) (by with_reducible repeat (first | exact LJr_rf | assumption | refine LJr_I (h := 0) (by decide) (Nat.zero_le _) ?_ | refine LJr_I (h := 3) (by decide) (by omega) ?_ | refine LJr_I (h := 4) (by decide) (by omega) ?_ | refine LJr_I (h := 5) (by decide) (by omega) ?_ | refine LJr_I (h := 7) (by decide) (by omega) ?_ | refine LJr_I (h := 20) (by decide) (by omega) ?_ | refine LJr_I (h := 64) (by decide) (by omega) ?_ | refine LJr_c (by assumption) ?_))) (zwk_s rfl (zwk_s rfl (zwk_n zwk_0)))
      · skip
        refine zs_tabIn (pc := 27) (tgt := 310) C 6 dX9_lineRead_27 h27 (by decide) rfl (by decide) ?_
        refine zs_aload_n (pc := 310) C dX9_lineRead_310 rfl ?_
        refine zs_aload_n (pc := 311) C dX9_lineRead_311 rfl ?_
        refine zs_geti (r := 1009) (pc := 312) C dX9_lineRead_312 w_X9_207 f_10_9 rfl (r_1009 0) (fun v312 e312 l312 u312 => ?_)
        refine zs_iconst (pc := 315) C dX9_lineRead_315 (by decide) ?_
        first | refine zs_isub (pc := 316) C dX9_lineRead_316 (by omega) ?_ | refine zs_isubF (pc := 316) C dX9_lineRead_316 (fun z316 hz3161 hz3162 => ?_)
        refine zVi1 (pc := 317) C dX9_lineRead_317 v_X9_304 (c_X9_onceLineY hX hR0 (by omega) (by omega) (by omega)) (by decide) (by decide) ⟨Nat.zero_le _, Nat.zero_le _⟩ (Nat.le_of_ble_eq_true rfl) (fun x317 G317 l317 u317 hp317 => ?_)
        obtain ⟨hz317, lo317, hq317⟩ := hp317
        have tr317_1017 := zsm_at hz317 1017 w 0 (by decide)
        try simp only [zuI_1, zuI_2, zuJ_1, zuJ_2, zuJ_3, zuP_1, zuP_2, zuP_3, zuC_1, zuC_2, reduceIte, Nat.reduceEqDiff, false_and, and_false, true_and, and_true, and_self, or_true, true_or, or_false, false_or] at tr317_1017
        have tr317_1020 := zsm_at hz317 1020 w 0 (by decide)
        try simp only [zuI_1, zuI_2, zuJ_1, zuJ_2, zuJ_3, zuP_1, zuP_2, zuP_3, zuC_1, zuC_2, reduceIte, Nat.reduceEqDiff, false_and, and_false, true_and, and_true, and_self, or_true, true_or, or_false, false_or] at tr317_1020
        have hxx : x317 = 1 → RC Γ w G317 ∧ gR b n Γ w (sBody b n A) G317 ∧ G.1 1010 w 0 < G317.1 1010 w 0 := fun q => ⟨(by repeat (first | assumption | refine RC_I (by decide) ?_ | refine RC_sm (by assumption) (by decide) ?_)), by rw [sBd_o (k := v312 - 3) (by omega) (by omega)]; exact (hq317.2.1 q).1, (hq317.2.1 q).2⟩
        have hyy : x317 = 0 → FT w (sSemi b n (sBody b n A)) G317 := fun q => FT_body (by rw [sBd_o (k := v312 - 3) (by omega) (by omega)]; exact hq317.2.2 q)
        refine zs_istore_n (pc := 320) C dX9_lineRead_320 (by decide) ?_
        dsimp only [zset, zclr, znone]
        exact zs_wk (J321 _ _ (by repeat (first | exact zsm_rf | assumption | refine zsm_C (by decide) ?_ | refine zsm_I (by decide) ?_ | refine zsm_J ?_ | refine zsm_c (by assumption) (by decide) ?_)) (by repeat (first | assumption | refine MI_I (by decide) ?_ | refine MI_J ?_ | refine MI_sm (by assumption) (by decide) ?_ | refine MI_sn (by assumption) (by decide) ?_)) (by omega) (by first | exact hxx | exact fun _ => ⟨(by repeat (first | assumption | refine RC_I (by decide) ?_ | refine RC_sm (by assumption) (by decide) ?_)), hh2, hh3⟩) (by first | exact hyy | (intro q; omega)) (by with_reducible repeat (first | exact LJr_rf | assumption | refine LJr_I (h := 0) (by decide) (Nat.zero_le _) ?_ | refine LJr_I (h := 3) (by decide) (by omega) ?_ | refine LJr_I (h := 4) (by decide) (by omega) ?_ | refine LJr_I (h := 5) (by decide) (by omega) ?_ | refine LJr_I (h := 7) (by decide) (by omega) ?_ | refine LJr_I (h := 20) (by decide) (by omega) ?_ | refine LJr_I (h := 64) (by decide) (by omega) ?_ | refine LJr_c (by assumption) ?_))) (zwk_s rfl (zwk_s rfl (zwk_n zwk_0)))
      · skip
        refine zs_tabIn (pc := 27) (tgt := 168) C 7 dX9_lineRead_27 h27 (by decide) rfl (by decide) ?_
        refine zs_aload_n (pc := 168) C dX9_lineRead_168 rfl ?_
        refine zVv0 (pc := 169) C dX9_lineRead_169 v_X9_230 (c_X9_tokenGY hX hG) (by decide) (by decide) ⟨Nat.zero_le _, Nat.zero_le _⟩ (Nat.le_of_ble_eq_true rfl) (fun G169 hp169 => ?_)
        obtain ⟨hz169, lo169, hq169⟩ := hp169
        have tr169_1017 := zsm_at hz169 1017 w 0 (by decide)
        try simp only [zuI_1, zuI_2, zuJ_1, zuJ_2, zuJ_3, zuP_1, zuP_2, zuP_3, zuC_1, zuC_2, reduceIte, Nat.reduceEqDiff, false_and, and_false, true_and, and_true, and_self, or_true, true_or, or_false, false_or] at tr169_1017
        have tr169_1020 := zsm_at hz169 1020 w 0 (by decide)
        try simp only [zuI_1, zuI_2, zuJ_1, zuJ_2, zuJ_3, zuP_1, zuP_2, zuP_3, zuC_1, zuC_2, reduceIte, Nat.reduceEqDiff, false_and, and_false, true_and, and_true, and_self, or_true, true_or, or_false, false_or] at tr169_1020
        have kd9 := ob_kd hq169
        have a169 := gT_adv hG hq169 (by omega)
        have p169 := hq169.2.2.2.2.1
        have J198 : ∀ (G0 : zH), (G0 = G169) → (¬ (G169.1 1008 w 0 = 1 ∧ 10 ≤ G169.1 1009 w 0 ∧ G169.1 1009 w 0 ≤ 13)) → Z p l e (zrm 5) s m args below meth c Γ 3 0 0 (MQ below (zQc Γ (zpi (fun x G' => zsm [1007, 1008, 1009, 1010, 1004, 1005, 1011, 2063, 2064, 2065, 1018, 2066, 2067, 2068, 2069, 1019, 2074, 2075, 2076, 2078, 1043, 1021, 2077, 1042, 1044, 1045, 1046, 1047, 2071, 2072, 2073, 2061, 2062, 1017, 2070, 1020, 2060, 2059] G G' ∧ LJr G G' ∧ ((x = 0 ∨ x = 1) ∧ MI Γ w G' ∧ (x = 1 → RC Γ w G' ∧ gR b n Γ w (sLine b n A) G' ∧ G.1 1010 w 0 < G'.1 1010 w 0) ∧ (x = 0 → FT w (sLine b n A) G'))))) args s 0 0 (zA Γ)) 198 [some (zr 10 w), none, none] [] G0 := by
          intro G0 h198_0 h198_1
          rw [h198_0]
          refine zs_aload_n (pc := 198) C dX9_lineRead_198 rfl ?_
          refine zs_iconst (pc := 199) C dX9_lineRead_199 (by decide) ?_
          refine zVi1 (pc := 200) C dX9_lineRead_200 v_X9_220 (c_X9_wrongY hX ) (by decide) (by decide) ⟨Nat.zero_le _, Nat.zero_le _⟩ (Nat.le_of_ble_eq_true rfl) (fun x200 G200 l200 u200 hp200 => ?_)
          obtain ⟨hz200, lo200, hq200⟩ := hp200
          have tr200_1017 := zsm_at hz200 1017 w 0 (by decide)
          try simp only [zuI_1, zuI_2, zuJ_1, zuJ_2, zuJ_3, zuP_1, zuP_2, zuP_3, zuC_1, zuC_2, reduceIte, Nat.reduceEqDiff, false_and, and_false, true_and, and_true, and_self, or_true, true_or, or_false, false_or] at tr200_1017
          have tr200_1020 := zsm_at hz200 1020 w 0 (by decide)
          try simp only [zuI_1, zuI_2, zuJ_1, zuJ_2, zuJ_3, zuP_1, zuP_2, zuP_3, zuC_1, zuC_2, reduceIte, Nat.reduceEqDiff, false_and, and_false, true_and, and_true, and_self, or_true, true_or, or_false, false_or] at tr200_1020
          have tr200_1010 := zsm_at hz200 1010 w 0 (by decide)
          try simp only [zuI_1, zuI_2, zuJ_1, zuJ_2, zuJ_3, zuP_1, zuP_2, zuP_3, zuC_1, zuC_2, reduceIte, Nat.reduceEqDiff, false_and, and_false, true_and, and_true, and_self, or_true, true_or, or_false, false_or] at tr200_1010
          exact zs_zret (pc := 203) C hr hlk dX9_lineRead_203 (by omega) ⟨by repeat (first | exact zsm_rf | assumption | refine zsm_C (by decide) ?_ | refine zsm_I (by decide) ?_ | refine zsm_J ?_ | refine zsm_c (by assumption) (by decide) ?_), (by with_reducible repeat (first | exact LJr_rf | assumption | refine LJr_I (h := 0) (by decide) (Nat.zero_le _) ?_ | refine LJr_I (h := 3) (by decide) (by omega) ?_ | refine LJr_I (h := 4) (by decide) (by omega) ?_ | refine LJr_I (h := 5) (by decide) (by omega) ?_ | refine LJr_I (h := 7) (by decide) (by omega) ?_ | refine LJr_I (h := 20) (by decide) (by omega) ?_ | refine LJr_I (h := 64) (by decide) (by omega) ?_ | refine LJr_c (by assumption) ?_)), ⟨by omega, (by repeat (first | assumption | refine MI_I (by decide) ?_ | refine MI_J ?_ | refine MI_sm (by assumption) (by decide) ?_ | refine MI_sn (by assumption) (by decide) ?_)), fun q => by omega, fun _ => FT_line ((by rw [sBd_8 (by omega)]; exact FT_Ene (by rw [sKind_1 (kd9.2 (by omega))]; exact FT_fail (by rw [sNext_f (by decide)]; exact h0) (by decide) hq200.2.1 (hq200.2.2.trans p169))))⟩⟩
        refine zs_aload_n (pc := 172) C dX9_lineRead_172 rfl ?_
        refine zs_geti (r := 1008) (pc := 173) C dX9_lineRead_173 w_X9_196 f_10_8 rfl (r_1008 0) (fun v173 e173 l173 u173 => ?_)
        refine zs_iconst (pc := 176) C dX9_lineRead_176 (by decide) ?_
        refine zs_icmp_ne (tgt := 198) (pc := 177) C dX9_lineRead_177 (by decide) (fun h177 => ?_) (fun h177 => ?_)
        · skip
          exact zs_wk (J198 _ rfl (by omega)) (zwk_s rfl (zwk_n (zwk_n zwk_0)))
        · skip
          refine zs_aload_n (pc := 180) C dX9_lineRead_180 rfl ?_
          refine zs_geti (r := 1009) (pc := 181) C dX9_lineRead_181 w_X9_207 f_10_9 rfl (r_1009 0) (fun v181 e181 l181 u181 => ?_)
          refine zs_bipush (pc := 184) C dX9_lineRead_184 (by decide) (by decide) ?_
          refine zs_icmp_lt (tgt := 198) (pc := 186) C dX9_lineRead_186 (by decide) (fun h186 => ?_) (fun h186 => ?_)
          · skip
            exact zs_wk (J198 _ rfl (by omega)) (zwk_s rfl (zwk_n (zwk_n zwk_0)))
          · skip
            refine zs_aload_n (pc := 189) C dX9_lineRead_189 rfl ?_
            refine zs_geti (r := 1009) (pc := 190) C dX9_lineRead_190 w_X9_207 f_10_9 rfl (r_1009 0) (fun v190 e190 l190 u190 => ?_)
            refine zs_bipush (pc := 193) C dX9_lineRead_193 (by decide) (by decide) ?_
            refine zs_icmp_le (tgt := 204) (pc := 195) C dX9_lineRead_195 (by decide) (fun h195 => ?_) (fun h195 => ?_)
            · skip
              have hwk := kd9.1 (by omega)
              clear kd9
              have hl9 := (hL9 (tW b n (sNext b n A) - 10).toNat (by omega)).1
              refine zs_bipush (pc := 204) C dX9_lineRead_204 (by decide) (by decide) ?_
              refine zs_aload_n (pc := 206) C dX9_lineRead_206 rfl ?_
              refine zs_geti (r := 1009) (pc := 207) C dX9_lineRead_207 w_X9_207 f_10_9 rfl (r_1009 0) (fun v207 e207 l207 u207 => ?_)
              first | refine zs_iadd (pc := 210) C dX9_lineRead_210 (by omega) ?_ | refine zs_iaddF (pc := 210) C dX9_lineRead_210 (fun z210 hz2101 hz2102 => ?_)
              refine zs_bipush (pc := 211) C dX9_lineRead_211 (by decide) (by decide) ?_
              first | refine zs_isub (pc := 213) C dX9_lineRead_213 (by omega) ?_ | refine zs_isubF (pc := 213) C dX9_lineRead_213 (fun z213 hz2131 hz2132 => ?_)
              refine zs_istore_n (pc := 214) C dX9_lineRead_214 (by decide) ?_
              dsimp only [zset, zclr, znone]
              have hix : (7 + v207 - 10).toNat = 7 + (tW b n (sNext b n A) - 10).toNat := by omega
              refine zs_aload_n (pc := 215) C dX9_lineRead_215 rfl ?_
              refine zs_getf (pc := 216) C dX9_lineRead_216 w_X9_57 f_10_34 (by decide) ?_
              refine zs_iload_n (pc := 219) C dX9_lineRead_219 rfl ?_
              refine zs_zald (r := 2071) (pc := 220) C dX9_lineRead_220 a_71 (by decide) (by omega) rfl (r_2071 _) (fun v220 e220 l220 u220 => ?_)
              have e220b : v220 = (if A 16 (tW b n (sNext b n A) - 10).toNat < A 17 (tW b n (sNext b n A) - 10).toNat then 1 else 0) := by
                rw [e220, hix, hz169.1 2071 (by decide)]
                exact hl9
              refine zs_if_eq (tgt := 230) (pc := 221) C dX9_lineRead_221 (by decide) (fun h221 => ?_) (fun h221 => ?_)
              · skip
                have hko := sKind_ok (b := b) (n := n) (A := A) (by omega) (fun q => by rw [if_pos q] at e220b; omega)
                have hbd : sBody b n A = sE b n (tW b n (sNext b n A) - 10) (sNext b n (sNext b n A)) := by rw [sBd_8 (by omega), hko.1, hko.2]
                refine zs_aload_n (pc := 230) C dX9_lineRead_230 rfl ?_
                refine zVv0 (pc := 231) C dX9_lineRead_231 v_X9_230 (c_X9_tokenGY hX hq169) (by decide) (by decide) ⟨Nat.zero_le _, Nat.zero_le _⟩ (Nat.le_of_ble_eq_true rfl) (fun G231 hp231 => ?_)
                obtain ⟨hz231, lo231, hq231⟩ := hp231
                have tr231_1017 := zsm_at hz231 1017 w 0 (by decide)
                try simp only [zuI_1, zuI_2, zuJ_1, zuJ_2, zuJ_3, zuP_1, zuP_2, zuP_3, zuC_1, zuC_2, reduceIte, Nat.reduceEqDiff, false_and, and_false, true_and, and_true, and_self, or_true, true_or, or_false, false_or] at tr231_1017
                have tr231_1020 := zsm_at hz231 1020 w 0 (by decide)
                try simp only [zuI_1, zuI_2, zuJ_1, zuJ_2, zuJ_3, zuP_1, zuP_2, zuP_3, zuC_1, zuC_2, reduceIte, Nat.reduceEqDiff, false_and, and_false, true_and, and_true, and_self, or_true, true_or, or_false, false_or] at tr231_1020
                have a231 := gT_adv hq169 hq231 hwk.2
                have p231 := hq231.2.2.2.2.1
                have fA : ∀ f j : Nat, f ≠ 0 → (sNext b n (sNext b n A)) f j = A f j := fun f j q => by rw [sNext_f q, sNext_f q]
                have hF2 : gF w (sNext b n (sNext b n A)) G231 := gF_sm (fA _ _ (by decide)) (fA _ _ (by decide)) (by rw [hz231.1 1004 (by decide), hz169.1 1004 (by decide)]) (by rw [hz231.1 1005 (by decide), hz169.1 1005 (by decide)]) hF
                have hL2 : gL Γ w (sNext b n (sNext b n A)) G231 := gL_of (fun f j hf => fA _ _ (by omega)) (by rw [hz231.1 2071 (by decide), hz169.1 2071 (by decide)]) (by rw [hz231.1 2072 (by decide), hz169.1 2072 (by decide)]) (by rw [hz231.1 2073 (by decide), hz169.1 2073 (by decide)]) hL9
                have hK2 : gK Γ w (sNext b n (sNext b n A)) G231 := gK_of (fun f j hf => fA _ _ (by omega)) (by rw [hz231.1 1021 (by decide), hz169.1 1021 (by decide)]) (by rw [hz231.1 1045 (by decide), hz169.1 1045 (by decide)]) (by rw [hz231.1 2074 (by decide), hz169.1 2074 (by decide)]) (by rw [hz231.1 2075 (by decide), hz169.1 2075 (by decide)]) (by rw [hz231.1 2076 (by decide), hz169.1 2076 (by decide)]) hK9
                refine zs_aload_n (pc := 234) C dX9_lineRead_234 rfl ?_
                refine zs_iload_n (pc := 235) C dX9_lineRead_235 rfl ?_
                refine zVi1 (pc := 236) C dX9_lineRead_236 v_X9_301 (c_X9_lawReadY (kk := tW b n (sNext b n A) - 10) hX (by repeat (first | assumption | refine MI_I (by decide) ?_ | refine MI_J ?_ | refine MI_sm (by assumption) (by decide) ?_ | refine MI_sn (by assumption) (by decide) ?_)) (by repeat (first | assumption | refine RC_I (by decide) ?_ | refine RC_sm (by assumption) (by decide) ?_)) hq231 hF2 hL2 hK2 (by rw [fA _ _ (by decide), fA _ _ (by decide)]; exact hc9) (by omega) (by omega)) (by decide) (by decide) ⟨Nat.zero_le _, Nat.zero_le _⟩ (Nat.le_of_ble_eq_true rfl) (fun x236 G236 l236 u236 hp236 => ?_)
                obtain ⟨hz236, lo236, hq236⟩ := hp236
                have tr236_1017 := zsm_at hz236 1017 w 0 (by decide)
                try simp only [zuI_1, zuI_2, zuJ_1, zuJ_2, zuJ_3, zuP_1, zuP_2, zuP_3, zuC_1, zuC_2, reduceIte, Nat.reduceEqDiff, false_and, and_false, true_and, and_true, and_self, or_true, true_or, or_false, false_or] at tr236_1017
                have tr236_1020 := zsm_at hz236 1020 w 0 (by decide)
                try simp only [zuI_1, zuI_2, zuJ_1, zuJ_2, zuJ_3, zuP_1, zuP_2, zuP_3, zuC_1, zuC_2, reduceIte, Nat.reduceEqDiff, false_and, and_false, true_and, and_true, and_self, or_true, true_or, or_false, false_or] at tr236_1020
                have hMI := hq236.2.1
                have hxx : x236 = 1 → RC Γ w G236 ∧ gR b n Γ w (sBody b n A) G236 ∧ G.1 1010 w 0 < G236.1 1010 w 0 := fun q => by
                  have y := hq236.2.2.1 q
                  obtain ⟨y1, y2, y3, y4, y5, y6, y7, y8, y9⟩ := y
                  refine ⟨y1, ?_, by omega⟩
                  rw [hbd]
                  exact gR_law (A := A) (G := G) (by repeat (first | exact zsm_rf | assumption | refine zsm_C (by decide) ?_ | refine zsm_I (by decide) ?_ | refine zsm_J ?_ | refine zsm_c (by assumption) (by decide) ?_)) hR0 y3 y4 (fun f j q1 q2 => by rw [sE_f q1 q2]; exact fA _ _ (by omega)) y5 y6 y7
                have hyy : x236 = 0 → FT w (sSemi b n (sBody b n A)) G236 := fun q => by rw [hbd]; exact hq236.2.2.2 q
                refine zs_istore_n (pc := 239) C dX9_lineRead_239 (by decide) ?_
                dsimp only [zset, zclr, znone]
                refine zs_goto (tgt := 321) (pc := 240) C dX9_lineRead_240 (by decide) ?_
                exact zs_wk (J321 _ _ (by repeat (first | exact zsm_rf | assumption | refine zsm_C (by decide) ?_ | refine zsm_I (by decide) ?_ | refine zsm_J ?_ | refine zsm_c (by assumption) (by decide) ?_)) (by repeat (first | assumption | refine MI_I (by decide) ?_ | refine MI_J ?_ | refine MI_sm (by assumption) (by decide) ?_ | refine MI_sn (by assumption) (by decide) ?_)) (by omega) (by first | exact hxx | exact fun _ => ⟨(by repeat (first | assumption | refine RC_I (by decide) ?_ | refine RC_sm (by assumption) (by decide) ?_)), hh2, hh3⟩) (by first | exact hyy | (intro q; omega)) (by with_reducible repeat (first | exact LJr_rf | assumption | refine LJr_I (h := 0) (by decide) (Nat.zero_le _) ?_ | refine LJr_I (h := 3) (by decide) (by omega) ?_ | refine LJr_I (h := 4) (by decide) (by omega) ?_ | refine LJr_I (h := 5) (by decide) (by omega) ?_ | refine LJr_I (h := 7) (by decide) (by omega) ?_ | refine LJr_I (h := 20) (by decide) (by omega) ?_ | refine LJr_I (h := 64) (by decide) (by omega) ?_ | refine LJr_c (by assumption) ?_))) (zwk_s rfl (zwk_s rfl (zwk_n zwk_0)))
              · skip
                refine zs_aload_n (pc := 224) C dX9_lineRead_224 rfl ?_
                refine zs_iconst (pc := 225) C dX9_lineRead_225 (by decide) ?_
                refine zVi1 (pc := 226) C dX9_lineRead_226 v_X9_220 (c_X9_wrongY hX ) (by decide) (by decide) ⟨Nat.zero_le _, Nat.zero_le _⟩ (Nat.le_of_ble_eq_true rfl) (fun x226 G226 l226 u226 hp226 => ?_)
                obtain ⟨hz226, lo226, hq226⟩ := hp226
                have tr226_1017 := zsm_at hz226 1017 w 0 (by decide)
                try simp only [zuI_1, zuI_2, zuJ_1, zuJ_2, zuJ_3, zuP_1, zuP_2, zuP_3, zuC_1, zuC_2, reduceIte, Nat.reduceEqDiff, false_and, and_false, true_and, and_true, and_self, or_true, true_or, or_false, false_or] at tr226_1017
                have tr226_1020 := zsm_at hz226 1020 w 0 (by decide)
                try simp only [zuI_1, zuI_2, zuJ_1, zuJ_2, zuJ_3, zuP_1, zuP_2, zuP_3, zuC_1, zuC_2, reduceIte, Nat.reduceEqDiff, false_and, and_false, true_and, and_true, and_self, or_true, true_or, or_false, false_or] at tr226_1020
                have tr226_1010 := zsm_at hz226 1010 w 0 (by decide)
                try simp only [zuI_1, zuI_2, zuJ_1, zuJ_2, zuJ_3, zuP_1, zuP_2, zuP_3, zuC_1, zuC_2, reduceIte, Nat.reduceEqDiff, false_and, and_false, true_and, and_true, and_self, or_true, true_or, or_false, false_or] at tr226_1010
                exact zs_zret (pc := 229) C hr hlk dX9_lineRead_229 (by omega) ⟨by repeat (first | exact zsm_rf | assumption | refine zsm_C (by decide) ?_ | refine zsm_I (by decide) ?_ | refine zsm_J ?_ | refine zsm_c (by assumption) (by decide) ?_), (by with_reducible repeat (first | exact LJr_rf | assumption | refine LJr_I (h := 0) (by decide) (Nat.zero_le _) ?_ | refine LJr_I (h := 3) (by decide) (by omega) ?_ | refine LJr_I (h := 4) (by decide) (by omega) ?_ | refine LJr_I (h := 5) (by decide) (by omega) ?_ | refine LJr_I (h := 7) (by decide) (by omega) ?_ | refine LJr_I (h := 20) (by decide) (by omega) ?_ | refine LJr_I (h := 64) (by decide) (by omega) ?_ | refine LJr_c (by assumption) ?_)), ⟨by omega, (by repeat (first | assumption | refine MI_I (by decide) ?_ | refine MI_J ?_ | refine MI_sm (by assumption) (by decide) ?_ | refine MI_sn (by assumption) (by decide) ?_)), fun q => by omega, fun _ => FT_line ((by rw [sBd_8 (by omega)]; exact FT_Ene (by rw [sKind_3 (by omega) (by by_cases q9 : A 16 (tW b n (sNext b n A) - 10).toNat < A 17 (tW b n (sNext b n A) - 10).toNat; exact q9; (rw [if_neg q9] at e220b; omega))]; exact FT_fail (by rw [sNext_f (by decide)]; exact h0) (by decide) hq226.2.1 (hq226.2.2.trans p169))))⟩⟩
            · skip
              exact zs_wk (J198 _ rfl (by omega)) (zwk_s rfl (zwk_n (zwk_n zwk_0)))
      · skip
        refine zs_tabIn (pc := 27) (tgt := 243) C 8 dX9_lineRead_27 h27 (by decide) rfl (by decide) ?_
        refine zs_aload_n (pc := 243) C dX9_lineRead_243 rfl ?_
        refine zs_geti (r := 1020) (pc := 244) C dX9_lineRead_244 w_X9_249 f_10_20 rfl (r_1020 0) (fun v244 e244 l244 u244 => ?_)
        refine zs_iconst (pc := 247) C dX9_lineRead_247 (by decide) ?_
        refine zs_icmp_ne (tgt := 257) (pc := 248) C dX9_lineRead_248 (by decide) (fun h248 => ?_) (fun h248 => ?_)
        · skip
          refine zs_aload_n (pc := 257) C dX9_lineRead_257 rfl ?_
          refine zVv0 (pc := 258) C dX9_lineRead_258 v_X9_230 (c_X9_tokenGY hX hG) (by decide) (by decide) ⟨Nat.zero_le _, Nat.zero_le _⟩ (Nat.le_of_ble_eq_true rfl) (fun G258 hp258 => ?_)
          obtain ⟨hz258, lo258, hq258⟩ := hp258
          have tr258_1017 := zsm_at hz258 1017 w 0 (by decide)
          try simp only [zuI_1, zuI_2, zuJ_1, zuJ_2, zuJ_3, zuP_1, zuP_2, zuP_3, zuC_1, zuC_2, reduceIte, Nat.reduceEqDiff, false_and, and_false, true_and, and_true, and_self, or_true, true_or, or_false, false_or] at tr258_1017
          have tr258_1020 := zsm_at hz258 1020 w 0 (by decide)
          try simp only [zuI_1, zuI_2, zuJ_1, zuJ_2, zuJ_3, zuP_1, zuP_2, zuP_3, zuC_1, zuC_2, reduceIte, Nat.reduceEqDiff, false_and, and_false, true_and, and_true, and_self, or_true, true_or, or_false, false_or] at tr258_1020
          refine zs_aload_n (pc := 261) C dX9_lineRead_261 rfl ?_
          refine zs_aload_n (pc := 262) C dX9_lineRead_262 rfl ?_
          refine zs_getf (pc := 263) C dX9_lineRead_263 w_X9_54 f_10_33 (by decide) ?_
          refine zs_iconst (pc := 266) C dX9_lineRead_266 (by decide) ?_
          refine zs_aload_n (pc := 267) C dX9_lineRead_267 rfl ?_
          refine zs_geti (r := 1020) (pc := 268) C dX9_lineRead_268 w_X9_249 f_10_20 rfl (r_1020 0) (fun v268 e268 l268 u268 => ?_)
          have hn9 : ¬ mst 3 ≤ A 4 (3 : Int).toNat := by rw [mc.2.2.2]; show ¬ (3 : Int) ≤ A 4 3; omega
          have hfd : fndn (G258.1 2070 (Γ.2.1 w 33)) 3 (tV b n (sNext b n A)) v268.toNat 0 = sFind 3 (tV b n (sNext b n A)) (sNext b n A) := by
            unfold sFind
            rw [sNext_f (by decide), show A 4 (3 : Int).toNat = v268 from (by show A 4 3 = v268; omega)]
            refine fnd_nm (p := 3) (q := 15) rfl rfl (fun j hj => ?_)
            rw [hz258.1 2070 (by decide), sNext_f (by decide)]
            exact hm9.2.2.2 j (by omega)
          refine zVi3 (pc := 271) C dX9_lineRead_271 v_X9_284 (c_X9_newName70Y hX hq258 (by omega) (by omega)) (by decide) (by decide) ⟨Nat.zero_le _, Nat.zero_le _⟩ (Nat.le_of_ble_eq_true rfl) (fun x271 G271 l271 u271 hp271 => ?_)
          obtain ⟨hz271, lo271, hq271⟩ := hp271
          have tr271_1017 := zsm_at hz271 1017 w 0 (by decide)
          try simp only [zuI_1, zuI_2, zuJ_1, zuJ_2, zuJ_3, zuP_1, zuP_2, zuP_3, zuC_1, zuC_2, reduceIte, Nat.reduceEqDiff, false_and, and_false, true_and, and_true, and_self, or_true, true_or, or_false, false_or] at tr271_1017
          have tr271_1020 := zsm_at hz271 1020 w 0 (by decide)
          try simp only [zuI_1, zuI_2, zuJ_1, zuJ_2, zuJ_3, zuP_1, zuP_2, zuP_3, zuC_1, zuC_2, reduceIte, Nat.reduceEqDiff, false_and, and_false, true_and, and_true, and_self, or_true, true_or, or_false, false_or] at tr271_1020
          refine zs_if_ne (tgt := 279) (pc := 274) C dX9_lineRead_274 (by decide) (fun h274 => ?_) (fun h274 => ?_)
          · skip
            have hk9 := hq271.2.2 (by omega)
            have hso := sNew_ok (b := b) (n := n) (kd := 3) (A := A) hn9 hk9.1 (by rw [← hfd]; exact hk9.2.1)
            have he := hso.1
            have hgn := sNew_T he hk9.2.2.2.1
            have hn1 : (sNew b n 3 A) 1 0 = 0 := by rw [sNew_1f (by decide) (by decide) (by decide) he]; exact h0
            have fA : ∀ f j : Nat, f ≠ 0 → f ≠ 4 → f ≠ 5 → (sNew b n 3 A) f j = A f j := fun f j q0 q4 q5 => sNew_1f q0 q4 q5 he
            have k271 := hk9.2.2.2.2
            have w271 := hk9.2.2.1
            have t258a := zsm_at hz258 1004 w 0 (by decide)
            have t258b := zsm_at hz258 1005 w 0 (by decide)
            have a258 := gT_adv hG hq258 (by omega)
            have a271 := gT_adv hq258 hk9.2.2.2.1 (by omega)
            have p271 := hgn.2.2.2.2.1
            have hF2 : gF w (sNew b n 3 A) G271 := gF_sm (fA _ _ (by decide) (by decide) (by decide)) (fA _ _ (by decide) (by decide) (by decide)) (by omega) (by omega) hF
            have hL2 : gL Γ w (sNew b n 3 A) G271 := gL_of (fun f j hf => fA _ _ (by omega) (by omega) (by omega)) (by rw [hz271.1 2071 (by decide), hz258.1 2071 (by decide)]) (by rw [hz271.1 2072 (by decide), hz258.1 2072 (by decide)]) (by rw [hz271.1 2073 (by decide), hz258.1 2073 (by decide)]) hL9
            have hK2 : gK Γ w (sNew b n 3 A) G271 := gK_of (fun f j hf => fA _ _ (by omega) (by omega) (by omega)) (by rw [hz271.1 1021 (by decide), hz258.1 1021 (by decide)]) (by rw [hz271.1 1045 (by decide), hz258.1 1045 (by decide)]) (by rw [hz271.1 2074 (by decide), hz258.1 2074 (by decide)]) (by rw [hz271.1 2075 (by decide), hz258.1 2075 (by decide)]) (by rw [hz271.1 2076 (by decide), hz258.1 2076 (by decide)]) hK9
            have hbd : sBody b n A = sE b n (4 + A 4 3) (sNew b n 3 A) := by rw [sBd_9 (by omega), show sNewV b n 3 A = A 4 3 from hso.2]
            refine zs_aload_n (pc := 279) C dX9_lineRead_279 rfl ?_
            refine zs_bipush (pc := 280) C dX9_lineRead_280 (by decide) (by decide) ?_
            refine zs_aload_n (pc := 282) C dX9_lineRead_282 rfl ?_
            refine zs_geti (r := 1020) (pc := 283) C dX9_lineRead_283 w_X9_249 f_10_20 rfl (r_1020 0) (fun v283 e283 l283 u283 => ?_)
            first | refine zs_iadd (pc := 286) C dX9_lineRead_286 (by omega) ?_ | refine zs_iaddF (pc := 286) C dX9_lineRead_286 (fun z286 hz2861 hz2862 => ?_)
            refine zVi1 (pc := 287) C dX9_lineRead_287 v_X9_301 (c_X9_lawReadY (kk := 4 + A 4 3) hX (by repeat (first | assumption | refine MI_I (by decide) ?_ | refine MI_J ?_ | refine MI_sm (by assumption) (by decide) ?_ | refine MI_sn (by assumption) (by decide) ?_)) (by repeat (first | assumption | refine RC_I (by decide) ?_ | refine RC_sm (by assumption) (by decide) ?_)) hgn hF2 hL2 hK2 (by rw [fA _ _ (by decide) (by decide) (by decide), fA _ _ (by decide) (by decide) (by decide)]; exact hc9) (by omega) (by omega)) (by decide) (by decide) ⟨Nat.zero_le _, Nat.zero_le _⟩ (Nat.le_of_ble_eq_true rfl) (fun x287 G287 l287 u287 hp287 => ?_)
            obtain ⟨hz287, lo287, hq287⟩ := hp287
            have tr287_1017 := zsm_at hz287 1017 w 0 (by decide)
            try simp only [zuI_1, zuI_2, zuJ_1, zuJ_2, zuJ_3, zuP_1, zuP_2, zuP_3, zuC_1, zuC_2, reduceIte, Nat.reduceEqDiff, false_and, and_false, true_and, and_true, and_self, or_true, true_or, or_false, false_or] at tr287_1017
            have tr287_1020 := zsm_at hz287 1020 w 0 (by decide)
            try simp only [zuI_1, zuI_2, zuJ_1, zuJ_2, zuJ_3, zuP_1, zuP_2, zuP_3, zuC_1, zuC_2, reduceIte, Nat.reduceEqDiff, false_and, and_false, true_and, and_true, and_self, or_true, true_or, or_false, false_or] at tr287_1020
            refine zs_if_ne (tgt := 295) (pc := 290) C dX9_lineRead_290 (by decide) (fun h290 => ?_) (fun h290 => ?_)
            · skip
              obtain ⟨y1, y2, y3, y4, y5, y6, y7, y8, y9⟩ := hq287.2.2.1 (by omega)
              have hMI := hq287.2.1
              refine zs_aload_n (pc := 295) C dX9_lineRead_295 rfl ?_
              refine zs_dupa (pc := 296) C dX9_lineRead_296 ?_
              refine zs_geti (r := 1020) (pc := 297) C dX9_lineRead_297 w_X9_249 f_10_20 rfl (r_1020 0) (fun v297 e297 l297 u297 => ?_)
              refine zs_iconst (pc := 300) C dX9_lineRead_300 (by decide) ?_
              first | refine zs_iadd (pc := 301) C dX9_lineRead_301 (by omega) ?_ | refine zs_iaddF (pc := 301) C dX9_lineRead_301 (fun z301 hz3011 hz3012 => ?_)
              refine zs_puti (r := 1020) (pc := 302) C dX9_lineRead_302 w_X9_249 f_10_20 rfl (r_1020 0) (by omega) ?_
              refine zs_heap (P := fun G9 => zsm [1007, 1008, 1009, 1010, 1004, 1005, 2074, 2075, 2076, 2078, 1043, 1021, 2077, 1042, 1044, 1045, 1046, 1047, 2071, 2072, 2073, 2070, 1020] G G9 ∧ LJr G G9 ∧ gR b n Γ w (sBody b n A) G9 ∧ G.1 1010 w 0 < G9.1 1010 w 0 ∧ RC Γ w G9 ∧ MI Γ w G9) ⟨(by repeat (first | exact zsm_rf | assumption | refine zsm_C (by decide) ?_ | refine zsm_I (by decide) ?_ | refine zsm_J ?_ | refine zsm_c (by assumption) (by decide) ?_)), (by with_reducible repeat (first | exact LJr_rf | assumption | refine LJr_I (h := 0) (by decide) (Nat.zero_le _) ?_ | refine LJr_I (h := 3) (by decide) (by omega) ?_ | refine LJr_I (h := 4) (by decide) (by omega) ?_ | refine LJr_I (h := 5) (by decide) (by omega) ?_ | refine LJr_I (h := 7) (by decide) (by omega) ?_ | refine LJr_I (h := 20) (by decide) (by omega) ?_ | refine LJr_I (h := 64) (by decide) (by omega) ?_ | refine LJr_c (by assumption) ?_)), ?_, ?_, (by repeat (first | assumption | refine RC_I (by decide) ?_ | refine RC_sm (by assumption) (by decide) ?_)), (by repeat (first | assumption | refine MI_I (by decide) ?_ | refine MI_J ?_ | refine MI_sm (by assumption) (by decide) ?_ | refine MI_sn (by assumption) (by decide) ?_))⟩ (fun G9 hG9 => ?_)
              · rw [hbd]
                refine gR_may (c := tV b n (sNext b n A)) (v := 0) (by repeat (first | exact zsm_rf | assumption | refine zsm_C (by decide) ?_ | refine zsm_I (by decide) ?_ | refine zsm_J ?_ | refine zsm_c (by assumption) (by decide) ?_)) hR0 (gT_I (by decide) y3) (gF_sm rfl rfl (by simp only [zuI_1, zuI_2, zuJ_1, zuJ_2, zuJ_3, zuP_1, zuP_2, zuP_3, zuC_1, zuC_2, reduceIte, Nat.reduceEqDiff, false_and, and_false, true_and, and_true, and_self, or_true, true_or, or_false, false_or]) (by simp only [zuI_1, zuI_2, zuJ_1, zuJ_2, zuJ_3, zuP_1, zuP_2, zuP_3, zuC_1, zuC_2, reduceIte, Nat.reduceEqDiff, false_and, and_false, true_and, and_true, and_self, or_true, true_or, or_false, false_or]) y4) (fun j => ?_) (fun j => ?_) (fun f j => ?_) (by omega) (gL_I (by decide) y5) (gK_I (by decide) y6) y7 (by first | omega | (simp only [zuI_1, zuI_2, zuJ_1, zuJ_2, zuJ_3, zuP_1, zuP_2, zuP_3, zuC_1, zuC_2, reduceIte, Nat.reduceEqDiff, false_and, and_false, true_and, and_true, and_self, or_true, true_or, or_false, false_or] <;> omega)) (fun j => ?_)
                · rw [sE_f (by decide) (by decide)]; exact (sNew_4f he).1
                · rw [sE_f (by decide) (by decide)]; exact (sNew_4f he).2
                · intros
                  rw [sE_f (by omega) (by omega)]
                  exact fA _ _ (by omega) (by omega) (by omega)
                · rw [zuI_nf (by decide), hz287.1 2070 (by decide), w271 j, hz258.1 2070 (by decide), show (3 + v268).toNat = (3 + A 4 3).toNat by omega]
              · first | omega | (simp only [zuI_1, zuI_2, zuJ_1, zuJ_2, zuJ_3, zuP_1, zuP_2, zuP_3, zuC_1, zuC_2, reduceIte, Nat.reduceEqDiff, false_and, and_false, true_and, and_true, and_self, or_true, true_or, or_false, false_or] <;> omega)
              obtain ⟨hh1, lwG9, hh2, hh3, hh4, hMIz⟩ := hG9
              refine zs_iconst (pc := 305) C dX9_lineRead_305 (by decide) ?_
              refine zs_istore_n (pc := 306) C dX9_lineRead_306 (by decide) ?_
              dsimp only [zset, zclr, znone]
              refine zs_goto (tgt := 321) (pc := 307) C dX9_lineRead_307 (by decide) ?_
              exact zs_wk (J321 _ _ (by repeat (first | exact zsm_rf | assumption | refine zsm_C (by decide) ?_ | refine zsm_I (by decide) ?_ | refine zsm_J ?_ | refine zsm_c (by assumption) (by decide) ?_)) (by repeat (first | assumption | refine MI_I (by decide) ?_ | refine MI_J ?_ | refine MI_sm (by assumption) (by decide) ?_ | refine MI_sn (by assumption) (by decide) ?_)) (by omega) (by first | exact hxx | exact fun _ => ⟨(by repeat (first | assumption | refine RC_I (by decide) ?_ | refine RC_sm (by assumption) (by decide) ?_)), hh2, hh3⟩) (by first | exact hyy | (intro q; omega)) (by with_reducible repeat (first | exact LJr_rf | assumption | refine LJr_I (h := 0) (by decide) (Nat.zero_le _) ?_ | refine LJr_I (h := 3) (by decide) (by omega) ?_ | refine LJr_I (h := 4) (by decide) (by omega) ?_ | refine LJr_I (h := 5) (by decide) (by omega) ?_ | refine LJr_I (h := 7) (by decide) (by omega) ?_ | refine LJr_I (h := 20) (by decide) (by omega) ?_ | refine LJr_I (h := 64) (by decide) (by omega) ?_ | refine LJr_c (by assumption) ?_))) (zwk_s rfl (zwk_s rfl (zwk_n zwk_0)))
            · skip
              refine zs_iconst (pc := 293) C dX9_lineRead_293 (by decide) ?_
              exact zs_zret (pc := 294) C hr hlk dX9_lineRead_294 (by omega) ⟨by repeat (first | exact zsm_rf | assumption | refine zsm_C (by decide) ?_ | refine zsm_I (by decide) ?_ | refine zsm_J ?_ | refine zsm_c (by assumption) (by decide) ?_), (by with_reducible repeat (first | exact LJr_rf | assumption | refine LJr_I (h := 0) (by decide) (Nat.zero_le _) ?_ | refine LJr_I (h := 3) (by decide) (by omega) ?_ | refine LJr_I (h := 4) (by decide) (by omega) ?_ | refine LJr_I (h := 5) (by decide) (by omega) ?_ | refine LJr_I (h := 7) (by decide) (by omega) ?_ | refine LJr_I (h := 20) (by decide) (by omega) ?_ | refine LJr_I (h := 64) (by decide) (by omega) ?_ | refine LJr_c (by assumption) ?_)), ⟨by omega, hq287.2.1, fun q => by omega, fun _ => FT_line (by rw [hbd]; exact hq287.2.2.2 (by omega))⟩⟩
          · skip
            refine zs_iconst (pc := 277) C dX9_lineRead_277 (by decide) ?_
            exact zs_zret (pc := 278) C hr hlk dX9_lineRead_278 (by omega) ⟨by repeat (first | exact zsm_rf | assumption | refine zsm_C (by decide) ?_ | refine zsm_I (by decide) ?_ | refine zsm_J ?_ | refine zsm_c (by assumption) (by decide) ?_), (by with_reducible repeat (first | exact LJr_rf | assumption | refine LJr_I (h := 0) (by decide) (Nat.zero_le _) ?_ | refine LJr_I (h := 3) (by decide) (by omega) ?_ | refine LJr_I (h := 4) (by decide) (by omega) ?_ | refine LJr_I (h := 5) (by decide) (by omega) ?_ | refine LJr_I (h := 7) (by decide) (by omega) ?_ | refine LJr_I (h := 20) (by decide) (by omega) ?_ | refine LJr_I (h := 64) (by decide) (by omega) ?_ | refine LJr_c (by assumption) ?_)), ⟨by omega, (by repeat (first | assumption | refine MI_I (by decide) ?_ | refine MI_J ?_ | refine MI_sm (by assumption) (by decide) ?_ | refine MI_sn (by assumption) (by decide) ?_)), fun q => by omega, fun _ => FT_line ((by rw [sBd_9 (by omega)]; exact FT_Ene (sNew_F h0 hn9 hfd (hq271.2.1 (by omega)))))⟩⟩
        · skip
          refine zs_aload_n (pc := 251) C dX9_lineRead_251 rfl ?_
          refine zs_iconst (pc := 252) C dX9_lineRead_252 (by decide) ?_
          refine zVi1 (pc := 253) C dX9_lineRead_253 v_X9_220 (c_X9_wrongY hX ) (by decide) (by decide) ⟨Nat.zero_le _, Nat.zero_le _⟩ (Nat.le_of_ble_eq_true rfl) (fun x253 G253 l253 u253 hp253 => ?_)
          obtain ⟨hz253, lo253, hq253⟩ := hp253
          have tr253_1017 := zsm_at hz253 1017 w 0 (by decide)
          try simp only [zuI_1, zuI_2, zuJ_1, zuJ_2, zuJ_3, zuP_1, zuP_2, zuP_3, zuC_1, zuC_2, reduceIte, Nat.reduceEqDiff, false_and, and_false, true_and, and_true, and_self, or_true, true_or, or_false, false_or] at tr253_1017
          have tr253_1020 := zsm_at hz253 1020 w 0 (by decide)
          try simp only [zuI_1, zuI_2, zuJ_1, zuJ_2, zuJ_3, zuP_1, zuP_2, zuP_3, zuC_1, zuC_2, reduceIte, Nat.reduceEqDiff, false_and, and_false, true_and, and_true, and_self, or_true, true_or, or_false, false_or] at tr253_1020
          have tr253_1010 := zsm_at hz253 1010 w 0 (by decide)
          try simp only [zuI_1, zuI_2, zuJ_1, zuJ_2, zuJ_3, zuP_1, zuP_2, zuP_3, zuC_1, zuC_2, reduceIte, Nat.reduceEqDiff, false_and, and_false, true_and, and_true, and_self, or_true, true_or, or_false, false_or] at tr253_1010
          exact zs_zret (pc := 256) C hr hlk dX9_lineRead_256 (by omega) ⟨by repeat (first | exact zsm_rf | assumption | refine zsm_C (by decide) ?_ | refine zsm_I (by decide) ?_ | refine zsm_J ?_ | refine zsm_c (by assumption) (by decide) ?_), (by with_reducible repeat (first | exact LJr_rf | assumption | refine LJr_I (h := 0) (by decide) (Nat.zero_le _) ?_ | refine LJr_I (h := 3) (by decide) (by omega) ?_ | refine LJr_I (h := 4) (by decide) (by omega) ?_ | refine LJr_I (h := 5) (by decide) (by omega) ?_ | refine LJr_I (h := 7) (by decide) (by omega) ?_ | refine LJr_I (h := 20) (by decide) (by omega) ?_ | refine LJr_I (h := 64) (by decide) (by omega) ?_ | refine LJr_c (by assumption) ?_)), ⟨by omega, (by repeat (first | assumption | refine MI_I (by decide) ?_ | refine MI_J ?_ | refine MI_sm (by assumption) (by decide) ?_ | refine MI_sn (by assumption) (by decide) ?_)), fun q => by omega, fun _ => FT_line ((by rw [sBd_9 (by omega)]; exact FT_Ene (by rw [sNew_full (by rw [mc.2.2.2]; show (3 : Int) ≤ A 4 3; omega)]; exact FT_fail h0 (by decide) hq253.2.1 (hq253.2.2.trans g10))))⟩⟩
      · skip
        refine zs_tabOut (tgt := 310) (pc := 27) C dX9_lineRead_27 h27 (by decide) ?_
        refine zs_aload_n (pc := 310) C dX9_lineRead_310 rfl ?_
        refine zs_aload_n (pc := 311) C dX9_lineRead_311 rfl ?_
        refine zs_geti (r := 1009) (pc := 312) C dX9_lineRead_312 w_X9_207 f_10_9 rfl (r_1009 0) (fun v312 e312 l312 u312 => ?_)
        refine zs_iconst (pc := 315) C dX9_lineRead_315 (by decide) ?_
        first | refine zs_isub (pc := 316) C dX9_lineRead_316 (by omega) ?_ | refine zs_isubF (pc := 316) C dX9_lineRead_316 (fun z316 hz3161 hz3162 => ?_)
        refine zVi1 (pc := 317) C dX9_lineRead_317 v_X9_304 (c_X9_onceLineY hX hR0 (by omega) (by omega) (by omega)) (by decide) (by decide) ⟨Nat.zero_le _, Nat.zero_le _⟩ (Nat.le_of_ble_eq_true rfl) (fun x317 G317 l317 u317 hp317 => ?_)
        obtain ⟨hz317, lo317, hq317⟩ := hp317
        have tr317_1017 := zsm_at hz317 1017 w 0 (by decide)
        try simp only [zuI_1, zuI_2, zuJ_1, zuJ_2, zuJ_3, zuP_1, zuP_2, zuP_3, zuC_1, zuC_2, reduceIte, Nat.reduceEqDiff, false_and, and_false, true_and, and_true, and_self, or_true, true_or, or_false, false_or] at tr317_1017
        have tr317_1020 := zsm_at hz317 1020 w 0 (by decide)
        try simp only [zuI_1, zuI_2, zuJ_1, zuJ_2, zuJ_3, zuP_1, zuP_2, zuP_3, zuC_1, zuC_2, reduceIte, Nat.reduceEqDiff, false_and, and_false, true_and, and_true, and_self, or_true, true_or, or_false, false_or] at tr317_1020
        have hxx : x317 = 1 → RC Γ w G317 ∧ gR b n Γ w (sBody b n A) G317 ∧ G.1 1010 w 0 < G317.1 1010 w 0 := fun q => ⟨(by repeat (first | assumption | refine RC_I (by decide) ?_ | refine RC_sm (by assumption) (by decide) ?_)), by rw [sBd_o (k := v312 - 3) (by omega) (by omega)]; exact (hq317.2.1 q).1, (hq317.2.1 q).2⟩
        have hyy : x317 = 0 → FT w (sSemi b n (sBody b n A)) G317 := fun q => FT_body (by rw [sBd_o (k := v312 - 3) (by omega) (by omega)]; exact hq317.2.2 q)
        refine zs_istore_n (pc := 320) C dX9_lineRead_320 (by decide) ?_
        dsimp only [zset, zclr, znone]
        exact zs_wk (J321 _ _ (by repeat (first | exact zsm_rf | assumption | refine zsm_C (by decide) ?_ | refine zsm_I (by decide) ?_ | refine zsm_J ?_ | refine zsm_c (by assumption) (by decide) ?_)) (by repeat (first | assumption | refine MI_I (by decide) ?_ | refine MI_J ?_ | refine MI_sm (by assumption) (by decide) ?_ | refine MI_sn (by assumption) (by decide) ?_)) (by omega) (by first | exact hxx | exact fun _ => ⟨(by repeat (first | assumption | refine RC_I (by decide) ?_ | refine RC_sm (by assumption) (by decide) ?_)), hh2, hh3⟩) (by first | exact hyy | (intro q; omega)) (by with_reducible repeat (first | exact LJr_rf | assumption | refine LJr_I (h := 0) (by decide) (Nat.zero_le _) ?_ | refine LJr_I (h := 3) (by decide) (by omega) ?_ | refine LJr_I (h := 4) (by decide) (by omega) ?_ | refine LJr_I (h := 5) (by decide) (by omega) ?_ | refine LJr_I (h := 7) (by decide) (by omega) ?_ | refine LJr_I (h := 20) (by decide) (by omega) ?_ | refine LJr_I (h := 64) (by decide) (by omega) ?_ | refine LJr_c (by assumption) ?_))) (zwk_s rfl (zwk_s rfl (zwk_n zwk_0)))
    · skip
      refine zs_aload_n (pc := 17) C dX9_lineRead_17 rfl ?_
      refine zs_iconst (pc := 18) C dX9_lineRead_18 (by decide) ?_
      refine zVi1 (pc := 19) C dX9_lineRead_19 v_X9_220 (c_X9_wrongY hX ) (by decide) (by decide) ⟨Nat.zero_le _, Nat.zero_le _⟩ (Nat.le_of_ble_eq_true rfl) (fun x19 G19 l19 u19 hp19 => ?_)
      obtain ⟨hz19, lo19, hq19⟩ := hp19
      have tr19_1017 := zsm_at hz19 1017 w 0 (by decide)
      try simp only [zuI_1, zuI_2, zuJ_1, zuJ_2, zuJ_3, zuP_1, zuP_2, zuP_3, zuC_1, zuC_2, reduceIte, Nat.reduceEqDiff, false_and, and_false, true_and, and_true, and_self, or_true, true_or, or_false, false_or] at tr19_1017
      have tr19_1020 := zsm_at hz19 1020 w 0 (by decide)
      try simp only [zuI_1, zuI_2, zuJ_1, zuJ_2, zuJ_3, zuP_1, zuP_2, zuP_3, zuC_1, zuC_2, reduceIte, Nat.reduceEqDiff, false_and, and_false, true_and, and_true, and_self, or_true, true_or, or_false, false_or] at tr19_1020
      have tr19_1010 := zsm_at hz19 1010 w 0 (by decide)
      try simp only [zuI_1, zuI_2, zuJ_1, zuJ_2, zuJ_3, zuP_1, zuP_2, zuP_3, zuC_1, zuC_2, reduceIte, Nat.reduceEqDiff, false_and, and_false, true_and, and_true, and_self, or_true, true_or, or_false, false_or] at tr19_1010
      exact zs_zret (pc := 22) C hr hlk dX9_lineRead_22 (by omega) ⟨by repeat (first | exact zsm_rf | assumption | refine zsm_C (by decide) ?_ | refine zsm_I (by decide) ?_ | refine zsm_J ?_ | refine zsm_c (by assumption) (by decide) ?_), (by with_reducible repeat (first | exact LJr_rf | assumption | refine LJr_I (h := 0) (by decide) (Nat.zero_le _) ?_ | refine LJr_I (h := 3) (by decide) (by omega) ?_ | refine LJr_I (h := 4) (by decide) (by omega) ?_ | refine LJr_I (h := 5) (by decide) (by omega) ?_ | refine LJr_I (h := 7) (by decide) (by omega) ?_ | refine LJr_I (h := 20) (by decide) (by omega) ?_ | refine LJr_I (h := 64) (by decide) (by omega) ?_ | refine LJr_c (by assumption) ?_)), ⟨by omega, (by repeat (first | assumption | refine MI_I (by decide) ?_ | refine MI_J ?_ | refine MI_sm (by assumption) (by decide) ?_ | refine MI_sn (by assumption) (by decide) ?_)), fun q => by omega, fun _ => FT_line (FT_body (by rw [sBd_n (ob_nk hG (by omega))]; exact FT_fail h0 (by decide) hq19.2.1 (hq19.2.2.trans g10)))⟩⟩
