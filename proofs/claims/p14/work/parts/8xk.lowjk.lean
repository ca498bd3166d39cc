set_option maxHeartbeats 4000000 in
set_option maxRecDepth 100000 in
theorem c_X9_personLineY {l : Launch} {Γ : zΓ} {G : zH} {w : Nat} {b : Nat → Int} {n : Int} {A : aS}  (hX : zXs Γ) (hR : gR b n Γ w A G) (hk0 : tK b n A ≠ 0) (hn7 : n ≤ 700) : zMet l Γ yX9_personLine cX9_personLine 3 (some .boolean) 3 [zr 10 w] G (zpi (fun x G' => zsm [1007, 1008, 1009, 1010, 1004, 1005, 1011, 2063, 2064, 2065, 1018] G G' ∧ LJr G G' ∧ ((x = 0 ∨ x = 1) ∧ (x = 1 → gR b n Γ w (sPerson b n A) G' ∧ G.1 1010 w 0 < G'.1 1010 w 0) ∧ (x = 0 → FT w (sPerson b n A) G')))) := by
  have mc := mst_c
  obtain ⟨hG, hF, hD⟩ := hR
  have hp9 := hD.2.1
  have hs9 := hD.1
  have c1 := hp9.1
  have c2 := hp9.2.1
  have sn1 := hs9.1
  have sn2 := hs9.2.1
  have sn3 := hs9.2.2.1
  have h0 := hF.1
  have g10 := hG.2.2.2.2.1
  have gnl := hG.2.2.2.1
  refine zMet_of RX9 hX (by decide) rfl (Nat.le_of_ble_eq_true rfl) ?_
  intro p e s m args below meth c C hr hlk
  show Z p l e (zrm 3) s m args below meth c Γ 3 0 0 (MQ below (zQc Γ (zpi (fun x G' => zsm [1007, 1008, 1009, 1010, 1004, 1005, 1011, 2063, 2064, 2065, 1018] G G' ∧ LJr G G' ∧ ((x = 0 ∨ x = 1) ∧ (x = 1 → gR b n Γ w (sPerson b n A) G' ∧ G.1 1010 w 0 < G'.1 1010 w 0) ∧ (x = 0 → FT w (sPerson b n A) G'))))) args s 0 0 (zA Γ)) 0 [some (zr 10 w), none, none] [] G
  refine zs_good (fun hGdz => ?_)
  have hbz_1010 := hGdz.1 1010 w 0
  rw [r_1010] at hbz_1010
  refine zs_aload_n (pc := 0) C dX9_personLine_0 rfl ?_
  refine zs_geti (r := 1018) (pc := 1) C dX9_personLine_1 w_X9_243 f_10_18 rfl (r_1018 0) (fun v1 e1 l1 u1 => ?_)
  refine zs_iconst (pc := 4) C dX9_personLine_4 (by decide) ?_
  refine zs_icmp_ne (tgt := 14) (pc := 5) C dX9_personLine_5 (by decide) (fun h5 => ?_) (fun h5 => ?_)
  · skip
    refine zs_aload_n (pc := 14) C dX9_personLine_14 rfl ?_
    refine zVv0 (pc := 15) C dX9_personLine_15 v_X9_230 (c_X9_tokenGY hX (by repeat (first | assumption | decide | apply gT_I | apply gT_sm))) (by decide) (by decide) ⟨Nat.zero_le _, Nat.zero_le _⟩ (Nat.le_of_ble_eq_true rfl) (fun G15 hp15 => ?_)
    obtain ⟨hz15, lo15, hq15⟩ := hp15
    have tr15_1018 := zsm_at hz15 1018 w 0 (by decide)
    try simp only [zuI_1, zuI_2, zuJ_1, zuJ_2, zuJ_3, zuP_1, zuP_2, zuP_3, zuC_1, zuC_2, reduceIte, Nat.reduceEqDiff, false_and, and_false, true_and, and_true, and_self, or_true, true_or, or_false, false_or] at tr15_1018
    have tr15_1017 := zsm_at hz15 1017 w 0 (by decide)
    try simp only [zuI_1, zuI_2, zuJ_1, zuJ_2, zuJ_3, zuP_1, zuP_2, zuP_3, zuC_1, zuC_2, reduceIte, Nat.reduceEqDiff, false_and, and_false, true_and, and_true, and_self, or_true, true_or, or_false, false_or] at tr15_1017
    refine zs_iconst (pc := 18) C dX9_personLine_18 (by decide) ?_
    refine zs_aload_n (pc := 19) C dX9_personLine_19 rfl ?_
    refine zs_geti (r := 1018) (pc := 20) C dX9_personLine_20 w_X9_243 f_10_18 rfl (r_1018 0) (fun v20 e20 l20 u20 => ?_)
    first | refine zs_iadd (pc := 23) C dX9_personLine_23 (by omega) ?_ | refine zs_iaddF (pc := 23) C dX9_personLine_23 (fun z23 hz231 hz232 => ?_)
    refine zs_istore_n (pc := 24) C dX9_personLine_24 (by decide) ?_
    dsimp only [zset, zclr, znone]
    refine zs_aload_n (pc := 25) C dX9_personLine_25 rfl ?_
    refine zs_aload_n (pc := 26) C dX9_personLine_26 rfl ?_
    refine zs_getf (pc := 27) C dX9_personLine_27 w_X9_33 f_10_26 (by decide) ?_
    refine zs_iconst (pc := 30) C dX9_personLine_30 (by decide) ?_
    refine zs_aload_n (pc := 31) C dX9_personLine_31 rfl ?_
    refine zs_geti (r := 1018) (pc := 32) C dX9_personLine_32 w_X9_243 f_10_18 rfl (r_1018 0) (fun v32 e32 l32 u32 => ?_)
    have hn9 : ¬ mst 1 ≤ A 4 (1 : Int).toNat := by rw [mc.2.1]; show ¬ (5 : Int) ≤ A 4 1; omega
    have hfd : fndn (G15.1 2063 (Γ.2.1 w 26)) 5 (tV b n (sNext b n A)) v32.toNat 0 = sFind 1 (tV b n (sNext b n A)) (sNext b n A) := by
      unfold sFind
      rw [sNext_f (by decide), show A 4 (1 : Int).toNat = v32 from (by show A 4 1 = v32; omega)]
      refine fnd_nm (p := 5) (q := 5) rfl rfl (fun j hj => ?_)
      rw [hz15.1 2063 (by decide), sNext_f (by decide)]
      exact (hp9.2.2.2.1 j (by omega)).1
    refine zVi3 (pc := 35) C dX9_personLine_35 v_X9_284 (c_X9_newName63Y hX hq15 (by omega) (by omega)) (by decide) (by decide) ⟨Nat.zero_le _, Nat.zero_le _⟩ (Nat.le_of_ble_eq_true rfl) (fun x35 G35 l35 u35 hp35 => ?_)
    obtain ⟨hz35, lo35, hq35⟩ := hp35
    have tr35_1018 := zsm_at hz35 1018 w 0 (by decide)
    try simp only [zuI_1, zuI_2, zuJ_1, zuJ_2, zuJ_3, zuP_1, zuP_2, zuP_3, zuC_1, zuC_2, reduceIte, Nat.reduceEqDiff, false_and, and_false, true_and, and_true, and_self, or_true, true_or, or_false, false_or] at tr35_1018
    have tr35_1017 := zsm_at hz35 1017 w 0 (by decide)
    try simp only [zuI_1, zuI_2, zuJ_1, zuJ_2, zuJ_3, zuP_1, zuP_2, zuP_3, zuC_1, zuC_2, reduceIte, Nat.reduceEqDiff, false_and, and_false, true_and, and_true, and_self, or_true, true_or, or_false, false_or] at tr35_1017
    refine zs_if_eq (tgt := 51) (pc := 38) C dX9_personLine_38 (by decide) (fun h38 => ?_) (fun h38 => ?_)
    · skip
      refine zs_iconst (pc := 51) C dX9_personLine_51 (by decide) ?_
      exact zs_zret (pc := 52) C hr hlk dX9_personLine_52 (by omega) ⟨by repeat (first | exact zsm_rf | assumption | refine zsm_C (by decide) ?_ | refine zsm_I (by decide) ?_ | refine zsm_J ?_ | refine zsm_c (by assumption) (by decide) ?_), (by with_reducible repeat (first | exact LJr_rf | assumption | refine LJr_I (h := 0) (by decide) (Nat.zero_le _) ?_ | refine LJr_I (h := 3) (by decide) (by omega) ?_ | refine LJr_I (h := 4) (by decide) (by omega) ?_ | refine LJr_I (h := 5) (by decide) (by omega) ?_ | refine LJr_I (h := 7) (by decide) (by omega) ?_ | refine LJr_I (h := 20) (by decide) (by omega) ?_ | refine LJr_I (h := 64) (by decide) (by omega) ?_ | refine LJr_c (by assumption) ?_)), ⟨by omega, fun q => by omega, fun _ => (by first | (have hFN := hq45.2.1 (by omega); rw [sPer_ne (by rw [sHon_1 hFN.1]; exact hFN.1), sHon_1 hFN.1]; exact hFN) | (have hFN := sNew_F h0 hn9 hfd (hq35.2.1 (by omega)); rw [sPer_ne (by rw [sHon_0 hFN.1]; exact hFN.1), sHon_0 hFN.1]; exact hFN))⟩⟩
    · skip
      have hk9 := hq35.2.2 (by omega)
      have hso := sNew_ok (b := b) (n := n) (kd := 1) (A := A) hn9 hk9.1 (by rw [← hfd]; exact hk9.2.1)
      have he := hso.1
      have hgn := sNew_T he hk9.2.2.2.1
      have hn1 : (sNew b n 1 A) 1 0 = 0 := by rw [sNew_1f (by decide) (by decide) (by decide) he]; exact h0
      refine zs_aload_n (pc := 41) C dX9_personLine_41 rfl ?_
      refine zs_iconst (pc := 42) C dX9_personLine_42 (by decide) ?_
      refine zs_bipush (pc := 43) C dX9_personLine_43 (by decide) (by decide) ?_
      refine zVi2 (pc := 45) C dX9_personLine_45 v_X9_236 (c_X9_numberY hX hgn hn1 (by decide)) (by decide) (by decide) ⟨Nat.zero_le _, Nat.zero_le _⟩ (Nat.le_of_ble_eq_true rfl) (fun x45 G45 l45 u45 hp45 => ?_)
      obtain ⟨hz45, lo45, hq45⟩ := hp45
      have tr45_1018 := zsm_at hz45 1018 w 0 (by decide)
      try simp only [zuI_1, zuI_2, zuJ_1, zuJ_2, zuJ_3, zuP_1, zuP_2, zuP_3, zuC_1, zuC_2, reduceIte, Nat.reduceEqDiff, false_and, and_false, true_and, and_true, and_self, or_true, true_or, or_false, false_or] at tr45_1018
      have tr45_1017 := zsm_at hz45 1017 w 0 (by decide)
      try simp only [zuI_1, zuI_2, zuJ_1, zuJ_2, zuJ_3, zuP_1, zuP_2, zuP_3, zuC_1, zuC_2, reduceIte, Nat.reduceEqDiff, false_and, and_false, true_and, and_true, and_self, or_true, true_or, or_false, false_or] at tr45_1017
      refine zs_if_ne (tgt := 53) (pc := 48) C dX9_personLine_48 (by decide) (fun h48 => ?_) (fun h48 => ?_)
      · skip
        have k45 := hq45.2.2 (by omega)
        have o45 := sNum_ok (b := b) (n := n) (lo := 0) (hi := 100) (A := sNew b n 1 A) hn1 k45.1 (by omega)
        have b35 := hq35.1
        have b45 := hq45.1
        clear hq35 hq45
        refine zs_aload_n (pc := 53) C dX9_personLine_53 rfl ?_
        refine zs_getf (pc := 54) C dX9_personLine_54 w_X9_36 f_10_27 (by decide) ?_
        refine zs_iload_n (pc := 57) C dX9_personLine_57 rfl ?_
        refine zs_aload_n (pc := 58) C dX9_personLine_58 rfl ?_
        refine zs_geti (r := 1011) (pc := 59) C dX9_personLine_59 w_X9_227 f_10_11 rfl (r_1011 0) (fun v59 e59 l59 u59 => ?_)
        refine zs_iast (r := 2064) (pc := 62) C dX9_personLine_62 a_64 (by decide) (by omega) rfl (r_2064 _) (by omega) ?_
        have hpv : sNewV b n 1 A = A 4 1 := hso.2
        have hH : sHon b n A = up (sNext b n (sNew b n 1 A)) 7 (A 4 1).toNat (tV b n (sNew b n 1 A)) := by
          unfold sHon
          rw [o45.1, o45.2, if_pos (by rw [sNext_f (by decide)]; exact hn1), hpv]
        have w35 := hk9.2.2.1
        have k35 := hk9.2.2.2.2
        have k45b := k45.2.2.2.2.2
        have f45 := k45.2.2.2.1
        have t15a := zsm_at hz15 1004 w 0 (by decide)
        have t15b := zsm_at hz15 1005 w 0 (by decide)
        have a1 := gT_adv hG hq15 hk0
        have a2 : G15.1 1010 w 0 ≤ G35.1 1010 w 0 := gT_mono hq15 hk9.2.2.2.1
        have a3 : G35.1 1010 w 0 ≤ G45.1 1010 w 0 := gT_mono hgn k45.2.2.2.2.1
        refine zs_heap (P := fun Gh => zsm [1007, 1008, 1009, 1010, 1004, 1005, 1011, 2063, 2064, 2065, 1018] G Gh ∧ LJr G Gh ∧ gT b n Γ w (sHon b n A) Gh ∧ G.1 1010 w 0 < Gh.1 1010 w 0 ∧ Gh.1 1004 w 0 = G.1 1004 w 0 ∧ Gh.1 1005 w 0 = G.1 1005 w 0 ∧ Gh.1 1018 w 0 = A 4 1 ∧ (∀ j : Nat, Gh.1 2063 (Γ.2.1 w 26) j = if j = (5 + A 4 1).toNat then tV b n (sNext b n A) else G.1 2063 (Γ.2.1 w 26) j) ∧ (∀ j : Nat, Gh.1 2064 (Γ.2.1 w 27) j = if j = (5 + A 4 1).toNat then tV b n (sNew b n 1 A) else G.1 2064 (Γ.2.1 w 27) j) ∧ Gh.1 2065 = G.1 2065) ⟨(by repeat (first | exact zsm_rf | assumption | refine zsm_C (by decide) ?_ | refine zsm_I (by decide) ?_ | refine zsm_J ?_ | refine zsm_c (by assumption) (by decide) ?_)), (by with_reducible repeat (first | exact LJr_rf | assumption | refine LJr_I (h := 0) (by decide) (Nat.zero_le _) ?_ | refine LJr_I (h := 3) (by decide) (by omega) ?_ | refine LJr_I (h := 4) (by decide) (by omega) ?_ | refine LJr_I (h := 5) (by decide) (by omega) ?_ | refine LJr_I (h := 7) (by decide) (by omega) ?_ | refine LJr_I (h := 20) (by decide) (by omega) ?_ | refine LJr_I (h := 64) (by decide) (by omega) ?_ | refine LJr_c (by assumption) ?_)), ?_, ?_, ?_, ?_, ?_, ?_, ?_, ?_⟩ (fun Gh hGh => ?_)
        · exact gT_A (A := sNext b n (sNew b n 1 A)) (by rw [hH, up_f (by decide)]) (gT_I (by decide) k45.2.2.2.2.1)
        · first | omega | (simp only [zuI_1, zuI_2, zuJ_1, zuJ_2, zuJ_3, zuP_1, zuP_2, zuP_3, zuC_1, zuC_2, reduceIte, Nat.reduceEqDiff, false_and, and_false, true_and, and_true, and_self, or_true, true_or, or_false, false_or] <;> omega)
        · first | omega | (simp only [zuI_1, zuI_2, zuJ_1, zuJ_2, zuJ_3, zuP_1, zuP_2, zuP_3, zuC_1, zuC_2, reduceIte, Nat.reduceEqDiff, false_and, and_false, true_and, and_true, and_self, or_true, true_or, or_false, false_or] <;> omega)
        · first | omega | (simp only [zuI_1, zuI_2, zuJ_1, zuJ_2, zuJ_3, zuP_1, zuP_2, zuP_3, zuC_1, zuC_2, reduceIte, Nat.reduceEqDiff, false_and, and_false, true_and, and_true, and_self, or_true, true_or, or_false, false_or] <;> omega)
        · first | omega | (simp only [zuI_1, zuI_2, zuJ_1, zuJ_2, zuJ_3, zuP_1, zuP_2, zuP_3, zuC_1, zuC_2, reduceIte, Nat.reduceEqDiff, false_and, and_false, true_and, and_true, and_self, or_true, true_or, or_false, false_or] <;> omega)
        · intro j
          rw [zuI_nf (by decide), hz45.1 2063 (by decide), w35 j, hz15.1 2063 (by decide), show (5 + v32).toNat = (5 + A 4 1).toNat by omega]
        · intro j
          simp only [zuI_1, zuI_2, zuJ_1, zuJ_2, zuJ_3, zuP_1, zuP_2, zuP_3, zuC_1, zuC_2, reduceIte, Nat.reduceEqDiff, false_and, and_false, true_and, and_true, and_self, or_true, true_or, or_false, false_or]
          rw [hz45.1 2064 (by decide), hz35.1 2064 (by decide), hz15.1 2064 (by decide), show (5 + v20).toNat = (5 + A 4 1).toNat by omega, show v59 = tV b n (sNew b n 1 A) by omega]
        · rw [zuI_nf (by decide), hz45.1 2065 (by decide), hz35.1 2065 (by decide), hz15.1 2065 (by decide)]
        obtain ⟨hh1, lwGh, hh2, hh3, hh4, hh5, hh6, hh7, hh8, hh9⟩ := hGh
        have ev20 : v20 = A 4 1 := by omega
        have hA41 : A 4 1 < 5 := by omega
        refine zs_iconst (pc := 63) C dX9_personLine_63 (by decide) ?_
        refine zs_istore_n (pc := 64) C dX9_personLine_64 (by decide) ?_
        dsimp only [zset, zclr, znone]
        have L65 : ∀ (nn : Nat) (x2 : Int) (G1 : zH), (0 ≤ x2 ∧ x2 ≤ 4) → (zsm [2065] Gh G1) → (∀ j : Nat, G1.1 2065 (Γ.2.1 w 28) j = if (20 + 4 * A 4 1 ≤ (j : Int) ∧ (j : Int) < 20 + 4 * A 4 1 + x2) then 0 else Gh.1 2065 (Γ.2.1 w 28) j) → (LJr Gh G1) → (4 - x2).toNat < nn → Z p l e (zrm 3) s m args below meth c Γ 3 0 0 (MQ below (zQc Γ (zpi (fun x G' => zsm [1007, 1008, 1009, 1010, 1004, 1005, 1011, 2063, 2064, 2065, 1018] G G' ∧ LJr G G' ∧ ((x = 0 ∨ x = 1) ∧ (x = 1 → gR b n Γ w (sPerson b n A) G' ∧ G.1 1010 w 0 < G'.1 1010 w 0) ∧ (x = 0 → FT w (sPerson b n A) G'))))) args s 0 0 (zA Γ)) 65 [some (zr 10 w), some (zi (5 + v20)), some (zi x2)] [] G1 := by
          intro nn
          induction nn with
          | zero => intro x2 G1 h65_0 h65_1 h65_2 h65_3 hm; exact absurd hm (Nat.not_lt_zero _)
          | succ nn ih65 =>
            intro x2 G1 h65_0 h65_1 h65_2 h65_3 hm65
            refine zs_iload_n (pc := 65) C dX9_personLine_65 rfl ?_
            refine zs_iconst (pc := 66) C dX9_personLine_66 (by decide) ?_
            refine zs_icmp_ge (tgt := 87) (pc := 67) C dX9_personLine_67 (by decide) (fun h67 => ?_) (fun h67 => ?_)
            · skip
              have L87 : ∀ (nn : Nat) (G2 : zH) (A1 : aS) (m1 : Nat), (zsm [1007, 1008, 1009, 1010, 1004, 1005, 1011, 2065] Gh G2) → (gT b n Γ w A1 G2) → (gF w A1 G2) → (G.1 1010 w 0 < G2.1 1010 w 0) → (pD b n A A1) → (pG Γ w A A1 G G2) → (sDeeds b n (A 4 1) m1 A1 = sPerson b n A) → (n - tP b n A1 < m1) → (LJr Gh G2) → (701 - G2.1 1010 w 0).toNat < nn → Z p l e (zrm 3) s m args below meth c Γ 3 0 0 (MQ below (zQc Γ (zpi (fun x G' => zsm [1007, 1008, 1009, 1010, 1004, 1005, 1011, 2063, 2064, 2065, 1018] G G' ∧ LJr G G' ∧ ((x = 0 ∨ x = 1) ∧ (x = 1 → gR b n Γ w (sPerson b n A) G' ∧ G.1 1010 w 0 < G'.1 1010 w 0) ∧ (x = 0 → FT w (sPerson b n A) G'))))) args s 0 0 (zA Γ)) 87 [some (zr 10 w), some (zi (5 + v20)), none] [] G2 := by
                intro nn
                induction nn with
                | zero => intro G2 A1 m1 h87_0 h87_1 h87_2 h87_3 h87_4 h87_5 h87_6 h87_7 h87_8 hm; exact absurd hm (Nat.not_lt_zero _)
                | succ nn ih87 =>
                  intro G2 A1 m1 h87_0 h87_1 h87_2 h87_3 h87_4 h87_5 h87_6 h87_7 h87_8 hm87
                  refine zs_good (fun hGdg => ?_)
                  have hbg_1010 := hGdg.1 1010 w 0
                  rw [r_1010] at hbg_1010
                  have t17 := zsm_at h87_0 1017 w 0 (by decide)
                  have t17b := zsm_at hh1 1017 w 0 (by decide)
                  have gk0 := h87_1.2.2.2.2.1
                  have gk1 := h87_1.2.2.2.1
                  refine zs_aload_n (pc := 87) C dX9_personLine_87 rfl ?_
                  refine zs_bipush (pc := 88) C dX9_personLine_88 (by decide) (by decide) ?_
                  refine zVip1 (pc := 90) C dX9_personLine_90 v_X9_288 (c_X9_isKeyG hX ) (by decide) (by decide) ⟨Nat.zero_le _, Nat.zero_le _⟩ (Nat.le_of_ble_eq_true rfl) (fun x90 l90 u90 hp90 => ?_)
                  have hq90 := hp90
                  have z90 := hq90.2.trans (gT_kw h87_1 (k := 9) (v := 2) (by omega))
                  have y90 := hq90.1
                  clear hq90 hp90
                  refine zs_if_eq (tgt := 193) (pc := 93) C dX9_personLine_93 (by decide) (fun h93 => ?_) (fun h93 => ?_)
                  · skip
                    have hw2 : ¬ tW b n A1 = 2 := fun q => (by have q2 := tW_c (b := b) (n := n) (A := A1); have q3 := z90.mpr (by omega); omega)
                    clear z90
                    refine zs_aload_n (pc := 193) C dX9_personLine_193 rfl ?_
                    have t18 := zsm_at h87_0 1018 w 0 (by decide)
                    refine zs_dupa (pc := 194) C dX9_personLine_194 ?_
                    refine zs_geti (r := 1018) (pc := 195) C dX9_personLine_195 w_X9_243 f_10_18 rfl (r_1018 0) (fun v195 e195 l195 u195 => ?_)
                    refine zs_iconst (pc := 198) C dX9_personLine_198 (by decide) ?_
                    first | refine zs_iadd (pc := 199) C dX9_personLine_199 (by omega) ?_ | refine zs_iaddF (pc := 199) C dX9_personLine_199 (fun z199 hz1991 hz1992 => ?_)
                    refine zs_puti (r := 1018) (pc := 200) C dX9_personLine_200 w_X9_243 f_10_18 rfl (r_1018 0) (by omega) ?_
                    have hend : sPerson b n A = A1 := by rw [← h87_6]; exact dds_e (fun q => hw2 q.2) _
                    have e63 := h87_0.1 2063 (by decide)
                    have e64 := h87_0.1 2064 (by decide)
                    have hF4 := h87_2.2.1
                    have hF5 := h87_2.2.2
                    have hFa := hF.2.1
                    have hFb := hF.2.2
                    have hd5 := h87_5
                    have s2 : A1 2 0 = A 2 0 := by rw [h87_4.1 2 0 (by decide) (by decide), hH, up_f (by decide), sNext_f (by decide), sNew_1f (by decide) (by decide) (by decide) he]
                    refine zs_heap (P := fun G9 => zsm [1007, 1008, 1009, 1010, 1004, 1005, 1011, 2063, 2064, 2065, 1018] G G9 ∧ LJr G G9 ∧ gR b n Γ w (sPerson b n A) G9 ∧ G.1 1010 w 0 < G9.1 1010 w 0) ⟨(by repeat (first | exact zsm_rf | assumption | refine zsm_C (by decide) ?_ | refine zsm_I (by decide) ?_ | refine zsm_J ?_ | refine zsm_c (by assumption) (by decide) ?_)), (by with_reducible repeat (first | exact LJr_rf | assumption | refine LJr_I (h := 0) (by decide) (Nat.zero_le _) ?_ | refine LJr_I (h := 3) (by decide) (by omega) ?_ | refine LJr_I (h := 4) (by decide) (by omega) ?_ | refine LJr_I (h := 5) (by decide) (by omega) ?_ | refine LJr_I (h := 7) (by decide) (by omega) ?_ | refine LJr_I (h := 20) (by decide) (by omega) ?_ | refine LJr_I (h := 64) (by decide) (by omega) ?_ | refine LJr_c (by assumption) ?_)), ?_, ?_⟩ (fun G9 hG9 => ?_)
                    · rw [hend]
                      refine gR_person (c := tV b n (sNext b n A)) (v := tV b n (sNew b n 1 A)) (by repeat (first | exact zsm_rf | assumption | refine zsm_C (by decide) ?_ | refine zsm_I (by decide) ?_ | refine zsm_J ?_ | refine zsm_c (by assumption) (by decide) ?_)) ⟨hG, hF, hD⟩ (gT_I (by decide) h87_1) hA41 (fun j => ?_) (fun j => ?_) (fun j => ?_) h87_4.2 (fun f j q0 q4 q5 q7 q8 => ?_) (by first | omega | (simp only [zuI_1, zuI_2, zuJ_1, zuJ_2, zuJ_3, zuP_1, zuP_2, zuP_3, zuC_1, zuC_2, reduceIte, Nat.reduceEqDiff, false_and, and_false, true_and, and_true, and_self, or_true, true_or, or_false, false_or] <;> omega)) (by first | omega | (simp only [zuI_1, zuI_2, zuJ_1, zuJ_2, zuJ_3, zuP_1, zuP_2, zuP_3, zuC_1, zuC_2, reduceIte, Nat.reduceEqDiff, false_and, and_false, true_and, and_true, and_self, or_true, true_or, or_false, false_or] <;> omega)) (by first | omega | (simp only [zuI_1, zuI_2, zuJ_1, zuJ_2, zuJ_3, zuP_1, zuP_2, zuP_3, zuC_1, zuC_2, reduceIte, Nat.reduceEqDiff, false_and, and_false, true_and, and_true, and_self, or_true, true_or, or_false, false_or] <;> omega)) (fun j => ?_) (fun j => ?_) ?_
                      · rw [h87_4.1 4 j (by decide) (by decide), hH, up_f (by decide), sNext_f (by decide)]; exact (sNew_4f he).1
                      · rw [h87_4.1 5 j (by decide) (by decide), hH, up_f (by decide), sNext_f (by decide)]; exact (sNew_4f he).2
                      · rw [h87_4.1 7 j (by decide) (by decide), hH, up_at, sNext_f (by decide), sNew_1f (by decide) (by decide) (by decide) he]
                      · rw [h87_4.1 f j q0 q8, hH, up_f q7, sNext_f q0, sNew_1f q0 q4 q5 he]
                      · rw [zuI_nf (by decide), e63]; exact hh7 j
                      · rw [zuI_nf (by decide), e64]; exact hh8 j
                      · unfold pG; rw [zuI_nf (by decide)]; exact hd5
                    · first | omega | (simp only [zuI_1, zuI_2, zuJ_1, zuJ_2, zuJ_3, zuP_1, zuP_2, zuP_3, zuC_1, zuC_2, reduceIte, Nat.reduceEqDiff, false_and, and_false, true_and, and_true, and_self, or_true, true_or, or_false, false_or] <;> omega)
                    obtain ⟨i1, lwG9, i2, i3⟩ := hG9
                    refine zs_iconst (pc := 203) C dX9_personLine_203 (by decide) ?_
                    exact zs_zret (pc := 204) C hr hlk dX9_personLine_204 (by omega) ⟨i1, (by with_reducible repeat (first | exact LJr_rf | assumption | refine LJr_I (h := 0) (by decide) (Nat.zero_le _) ?_ | refine LJr_I (h := 3) (by decide) (by omega) ?_ | refine LJr_I (h := 4) (by decide) (by omega) ?_ | refine LJr_I (h := 5) (by decide) (by omega) ?_ | refine LJr_I (h := 7) (by decide) (by omega) ?_ | refine LJr_I (h := 20) (by decide) (by omega) ?_ | refine LJr_I (h := 64) (by decide) (by omega) ?_ | refine LJr_c (by assumption) ?_)), ⟨by omega, fun _ => ⟨i2, i3⟩, fun q => by omega⟩⟩
                  · skip
                    have r90 := z90.mp (by omega)
                    have hw2 : tW b n A1 = 2 := by rw [tW_c.1 r90.1]; exact r90.2
                    clear z90
                    refine zs_aload_n (pc := 96) C dX9_personLine_96 rfl ?_
                    refine zVv0 (pc := 97) C dX9_personLine_97 v_X9_230 (c_X9_tokenGY hX h87_1) (by decide) (by decide) ⟨Nat.zero_le _, Nat.zero_le _⟩ (Nat.le_of_ble_eq_true rfl) (fun G97 hp97 => ?_)
                    obtain ⟨hz97, lo97, hq97⟩ := hp97
                    have tr97_1018 := zsm_at hz97 1018 w 0 (by decide)
                    try simp only [zuI_1, zuI_2, zuJ_1, zuJ_2, zuJ_3, zuP_1, zuP_2, zuP_3, zuC_1, zuC_2, reduceIte, Nat.reduceEqDiff, false_and, and_false, true_and, and_true, and_self, or_true, true_or, or_false, false_or] at tr97_1018
                    have tr97_1017 := zsm_at hz97 1017 w 0 (by decide)
                    try simp only [zuI_1, zuI_2, zuJ_1, zuJ_2, zuJ_3, zuP_1, zuP_2, zuP_3, zuC_1, zuC_2, reduceIte, Nat.reduceEqDiff, false_and, and_false, true_and, and_true, and_self, or_true, true_or, or_false, false_or] at tr97_1017
                    have gn97 := gT_name hq97
                    have g97 := hq97.2.2.2.2.1
                    refine zs_aload_n (pc := 100) C dX9_personLine_100 rfl ?_
                    refine zs_geti (r := 1008) (pc := 101) C dX9_personLine_101 w_X9_196 f_10_8 rfl (r_1008 0) (fun v101 e101 l101 u101 => ?_)
                    refine zs_iconst (pc := 104) C dX9_personLine_104 (by decide) ?_
                    refine zs_icmp_eq (tgt := 114) (pc := 105) C dX9_personLine_105 (by decide) (fun h105 => ?_) (fun h105 => ?_)
                    · skip
                      have r105 : tK b n (sNext b n A1) = 1 := gn97.1.mp (by omega)
                      clear gn97
                      refine zs_aload_n (pc := 114) C dX9_personLine_114 rfl ?_
                      refine zs_getf (pc := 115) C dX9_personLine_115 w_X9_27 f_10_24 (by decide) ?_
                      refine zs_iconst (pc := 118) C dX9_personLine_118 (by decide) ?_
                      refine zs_aload_n (pc := 119) C dX9_personLine_119 rfl ?_
                      refine zs_geti (r := 1017) (pc := 120) C dX9_personLine_120 w_X9_240 f_10_17 rfl (r_1017 0) (fun v120 e120 l120 u120 => ?_)
                      refine zs_aload_n (pc := 123) C dX9_personLine_123 rfl ?_
                      refine zs_geti (r := 1009) (pc := 124) C dX9_personLine_124 w_X9_207 f_10_9 rfl (r_1009 0) (fun v124 e124 l124 u124 => ?_)
                      have hfs : fndn (G97.1 2061 (Γ.2.1 w 24)) 4 (tV b n (sNext b n A1)) v120.toNat 0 = sFind 0 (tV b n (sNext b n A1)) (sNext b n A1) := by
                        unfold sFind
                        have e40 : (sNext b n A1) 4 (0 : Int).toNat = v120 := by
                          show (sNext b n A1) 4 0 = v120
                          rw [sNext_f (by decide), h87_4.1 4 0 (by decide) (by decide), hH, up_f (by decide), sNext_f (by decide), (sNew_4f he).1, if_neg (by decide)]
                          omega
                        rw [e40]
                        refine fnd_nm (p := 4) (q := 0) rfl rfl (fun j hj => ?_)
                        rw [hz97.1 2061 (by decide), h87_0.1 2061 (by decide), hh1.1 2061 (by decide), sNext_f (by decide), h87_4.1 5 _ (by decide) (by decide), hH, up_f (by decide), sNext_f (by decide), (sNew_4f he).2, if_neg (by show ¬ 0 + j = (1 * 5 + A 4 1).toNat; omega), Nat.zero_add]
                        exact (hs9.2.2.2 j (by omega)).1
                      have h124 : v124 = tV b n (sNext b n A1) := by have q := (gT_name hq97).2 r105; omega
                      subst h124
                      refine zSip4 (pc := 127) C dX9_personLine_127 s_X9_280 (c_X9_findG hX a_61 (by decide) (by decide) (by omega)) (by decide) ⟨Nat.zero_le _, Nat.zero_le _⟩ (Nat.le_of_ble_eq_true rfl) (fun x127 l127 u127 hp127 => ?_)
                      have hq127 := hp127
                      have h27 : x127 = sFind 0 (tV b n (sNext b n A1)) (sNext b n A1) := hq127.1.trans hfs
                      have h27b := hq127.2
                      refine zs_istore_n (pc := 130) C dX9_personLine_130 (by decide) ?_
                      dsimp only [zset, zclr, znone]
                      refine zs_iload_n (pc := 131) C dX9_personLine_131 rfl ?_
                      refine zs_if_ge (tgt := 141) (pc := 132) C dX9_personLine_132 (by decide) (fun h132 => ?_) (fun h132 => ?_)
                      · skip
                        refine zs_aload_n (pc := 141) C dX9_personLine_141 rfl ?_
                        refine zs_getf (pc := 142) C dX9_personLine_142 w_X9_39 f_10_28 (by decide) ?_
                        refine zs_iconst (pc := 145) C dX9_personLine_145 (by decide) ?_
                        refine zs_iload_n (pc := 146) C dX9_personLine_146 rfl ?_
                        first | refine zs_imul (pc := 147) C dX9_personLine_147 (by omega) ?_ | refine zs_imulF (pc := 147) C dX9_personLine_147 (fun z147 hz1471 hz1472 => ?_)
                        refine zs_iload_n (pc := 148) C dX9_personLine_148 rfl ?_
                        first | refine zs_iadd (pc := 149) C dX9_personLine_149 (by omega) ?_ | refine zs_iaddF (pc := 149) C dX9_personLine_149 (fun z149 hz1491 hz1492 => ?_)
                        refine zs_iald (r := 2065) (pc := 150) C dX9_personLine_150 a_65 (by decide) (by omega) rfl (r_2065 _) (fun v150 e150 l150 u150 => ?_)
                        have hix : (A 4 1 * 4 + sFind 0 (tV b n (sNext b n A1)) (sNext b n A1)).toNat = 4 * (A 4 1).toNat + x127.toNat := by rw [← h27]; omega
                        have hdd := h87_5.1 x127.toNat (by omega)
                        have e150b : v150 = A1 8 (4 * (A 4 1).toNat + x127.toNat) := by
                          rw [e150, hz97.1 2065 (by decide), show (4 * (5 + v20) + x127).toNat = 20 + 4 * (A 4 1).toNat + x127.toNat by omega]
                          exact hdd.1
                        have e8 : (sNext b n A1) 8 (A 4 1 * 4 + sFind 0 (tV b n (sNext b n A1)) (sNext b n A1)).toNat = v150 := by rw [hix, sNext_f (by decide)]; exact e150b.symm
                        refine zs_if_le (tgt := 160) (pc := 151) C dX9_personLine_151 (by decide) (fun h151 => ?_) (fun h151 => ?_)
                        · skip
                          refine zs_aload_n (pc := 160) C dX9_personLine_160 rfl ?_
                          refine zVv0 (pc := 161) C dX9_personLine_161 v_X9_230 (c_X9_tokenGY hX hq97) (by decide) (by decide) ⟨Nat.zero_le _, Nat.zero_le _⟩ (Nat.le_of_ble_eq_true rfl) (fun G161 hp161 => ?_)
                          obtain ⟨hz161, lo161, hq161⟩ := hp161
                          have tr161_1018 := zsm_at hz161 1018 w 0 (by decide)
                          try simp only [zuI_1, zuI_2, zuJ_1, zuJ_2, zuJ_3, zuP_1, zuP_2, zuP_3, zuC_1, zuC_2, reduceIte, Nat.reduceEqDiff, false_and, and_false, true_and, and_true, and_self, or_true, true_or, or_false, false_or] at tr161_1018
                          have tr161_1017 := zsm_at hz161 1017 w 0 (by decide)
                          try simp only [zuI_1, zuI_2, zuJ_1, zuJ_2, zuJ_3, zuP_1, zuP_2, zuP_3, zuC_1, zuC_2, reduceIte, Nat.reduceEqDiff, false_and, and_false, true_and, and_true, and_self, or_true, true_or, or_false, false_or] at tr161_1017
                          refine zs_aload_n (pc := 164) C dX9_personLine_164 rfl ?_
                          refine zs_iconst (pc := 165) C dX9_personLine_165 (by decide) ?_
                          refine zs_bipush (pc := 166) C dX9_personLine_166 (by decide) (by decide) ?_
                          refine zVi2 (pc := 168) C dX9_personLine_168 v_X9_236 (c_X9_numberY hX hq161 (by rw [sNext_f (by decide), sNext_f (by decide)]; exact h87_2.1) (by decide)) (by decide) (by decide) ⟨Nat.zero_le _, Nat.zero_le _⟩ (Nat.le_of_ble_eq_true rfl) (fun x168 G168 l168 u168 hp168 => ?_)
                          obtain ⟨hz168, lo168, hq168⟩ := hp168
                          have tr168_1018 := zsm_at hz168 1018 w 0 (by decide)
                          try simp only [zuI_1, zuI_2, zuJ_1, zuJ_2, zuJ_3, zuP_1, zuP_2, zuP_3, zuC_1, zuC_2, reduceIte, Nat.reduceEqDiff, false_and, and_false, true_and, and_true, and_self, or_true, true_or, or_false, false_or] at tr168_1018
                          have tr168_1017 := zsm_at hz168 1017 w 0 (by decide)
                          try simp only [zuI_1, zuI_2, zuJ_1, zuJ_2, zuJ_3, zuP_1, zuP_2, zuP_3, zuC_1, zuC_2, reduceIte, Nat.reduceEqDiff, false_and, and_false, true_and, and_true, and_self, or_true, true_or, or_false, false_or] at tr168_1017
                          refine zs_if_ne (tgt := 176) (pc := 171) C dX9_personLine_171 (by decide) (fun h171 => ?_) (fun h171 => ?_)
                          · skip
                            refine zs_aload_n (pc := 176) C dX9_personLine_176 rfl ?_
                            refine zs_getf (pc := 177) C dX9_personLine_177 w_X9_39 f_10_28 (by decide) ?_
                            refine zs_iconst (pc := 180) C dX9_personLine_180 (by decide) ?_
                            refine zs_iload_n (pc := 181) C dX9_personLine_181 rfl ?_
                            first | refine zs_imul (pc := 182) C dX9_personLine_182 (by omega) ?_ | refine zs_imulF (pc := 182) C dX9_personLine_182 (fun z182 hz1821 hz1822 => ?_)
                            refine zs_iload_n (pc := 183) C dX9_personLine_183 rfl ?_
                            first | refine zs_iadd (pc := 184) C dX9_personLine_184 (by omega) ?_ | refine zs_iaddF (pc := 184) C dX9_personLine_184 (fun z184 hz1841 hz1842 => ?_)
                            refine zs_aload_n (pc := 185) C dX9_personLine_185 rfl ?_
                            refine zs_geti (r := 1011) (pc := 186) C dX9_personLine_186 w_X9_227 f_10_11 rfl (r_1011 0) (fun v186 e186 l186 u186 => ?_)
                            refine zs_iast (r := 2065) (pc := 189) C dX9_personLine_189 a_65 (by decide) (by omega) rfl (r_2065 _) (by omega) ?_
                            have k168 := hq168.2.2 (by omega)
                            have z1 : (sNext b n (sNext b n A1)) 1 0 = 0 := by rw [sNext_f (by decide), sNext_f (by decide)]; exact h87_2.1
                            have o168 := sNum_ok (b := b) (n := n) (lo := 1) (hi := 9) (A := sNext b n (sNext b n A1)) z1 k168.1 (by omega)
                            have hDD : sDeed b n (A 4 1) (sNext b n A1) = up (sNext b n (sNext b n (sNext b n A1))) 8 (4 * (A 4 1).toNat + x127.toNat) (tV b n (sNext b n (sNext b n A1))) := by rw [sDeed_n r105 (by omega) (by omega), o168.1, o168.2, hix]
                            have f168 := k168.2.2.2.1
                            have k168b := k168.2.2.2.2.2
                            have n5 := zsm_at hz161 1004 w 0 (by decide)
                            have n6 := zsm_at hz161 1005 w 0 (by decide)
                            have n7 := zsm_at hz97 1004 w 0 (by decide)
                            have n8 := zsm_at hz97 1005 w 0 (by decide)
                            have b1 := gT_mono h87_1 hq97
                            have b2 := gT_adv hq97 hq161 (by omega)
                            have b3 : G161.1 1010 w 0 ≤ G168.1 1010 w 0 := gT_mono hq161 k168.2.2.2.2.1
                            have b4 := k168.2.2.2.2.1.2.2.2.2.1
                            have hF4 := h87_2.2.1
                            have hF5 := h87_2.2.2
                            refine zs_heap (P := fun G8 => zsm [1007, 1008, 1009, 1010, 1004, 1005, 1011, 2065] Gh G8 ∧ LJr Gh G8 ∧ gT b n Γ w (sDeed b n (A 4 1) (sNext b n A1)) G8 ∧ gF w (sDeed b n (A 4 1) (sNext b n A1)) G8 ∧ G2.1 1010 w 0 < G8.1 1010 w 0 ∧ pD b n A (sDeed b n (A 4 1) (sNext b n A1)) ∧ pG Γ w A (sDeed b n (A 4 1) (sNext b n A1)) G G8 ∧ tP b n (sDeed b n (A 4 1) (sNext b n A1)) = G8.1 1010 w 0) ⟨(by repeat (first | exact zsm_rf | assumption | refine zsm_C (by decide) ?_ | refine zsm_I (by decide) ?_ | refine zsm_J ?_ | refine zsm_c (by assumption) (by decide) ?_)), (by with_reducible repeat (first | exact LJr_rf | assumption | refine LJr_I (h := 0) (by decide) (Nat.zero_le _) ?_ | refine LJr_I (h := 3) (by decide) (by omega) ?_ | refine LJr_I (h := 4) (by decide) (by omega) ?_ | refine LJr_I (h := 5) (by decide) (by omega) ?_ | refine LJr_I (h := 7) (by decide) (by omega) ?_ | refine LJr_I (h := 20) (by decide) (by omega) ?_ | refine LJr_I (h := 64) (by decide) (by omega) ?_ | refine LJr_c (by assumption) ?_)), ?_, ?_, ?_, ?_, ?_, ?_⟩ (fun G8 hG8 => ?_)
                            · exact gT_A (A := sNext b n (sNext b n (sNext b n A1))) (by rw [hDD, up_f (by decide)]) (gT_I (by decide) k168.2.2.2.2.1)
                            · refine ⟨?_, ?_, ?_⟩
                              · rw [hDD, up_f (by decide), sNext_f (by decide)]; exact z1
                              · first | omega | (simp only [zuI_1, zuI_2, zuJ_1, zuJ_2, zuJ_3, zuP_1, zuP_2, zuP_3, zuC_1, zuC_2, reduceIte, Nat.reduceEqDiff, false_and, and_false, true_and, and_true, and_self, or_true, true_or, or_false, false_or] <;> omega)
                              · rw [hDD, up_f (by decide), sNext_f (by decide), sNext_f (by decide), sNext_f (by decide)]; first | omega | (simp only [zuI_1, zuI_2, zuJ_1, zuJ_2, zuJ_3, zuP_1, zuP_2, zuP_3, zuC_1, zuC_2, reduceIte, Nat.reduceEqDiff, false_and, and_false, true_and, and_true, and_self, or_true, true_or, or_false, false_or] <;> omega)
                            · first | omega | (simp only [zuI_1, zuI_2, zuJ_1, zuJ_2, zuJ_3, zuP_1, zuP_2, zuP_3, zuC_1, zuC_2, reduceIte, Nat.reduceEqDiff, false_and, and_false, true_and, and_true, and_self, or_true, true_or, or_false, false_or] <;> omega)
                            · refine ⟨fun f j q0 q8 => ?_, fun j hj => ?_⟩
                              · rw [hDD, up_f q8, sNext_f q0, sNext_f q0, sNext_f q0]; exact h87_4.1 f j q0 q8
                              · rw [hDD, up_j (by omega), sNext_f (by decide), sNext_f (by decide), sNext_f (by decide)]; exact h87_4.2 j hj
                            · refine ⟨fun s hs => ?_, fun j hj => ?_⟩
                              · simp only [zuI_1, zuI_2, zuJ_1, zuJ_2, zuJ_3, zuP_1, zuP_2, zuP_3, zuC_1, zuC_2, reduceIte, Nat.reduceEqDiff, false_and, and_false, true_and, and_true, and_self, or_true, true_or, or_false, false_or]
                                rw [hz168.1 2065 (by decide), hz161.1 2065 (by decide), hz97.1 2065 (by decide), hDD, up_at, show (4 * (5 + v20) + x127).toNat = 20 + 4 * (A 4 1).toNat + x127.toNat by omega, show v186 = tV b n (sNext b n (sNext b n A1)) by omega]
                                by_cases q : s = x127.toNat
                                · rw [if_pos (by omega), if_pos (by omega)]
                                  exact ⟨rfl, by omega⟩
                                · rw [if_neg (by omega), if_neg (by omega), sNext_f (by decide), sNext_f (by decide), sNext_f (by decide)]
                                  exact h87_5.1 s hs
                              · simp only [zuI_1, zuI_2, zuJ_1, zuJ_2, zuJ_3, zuP_1, zuP_2, zuP_3, zuC_1, zuC_2, reduceIte, Nat.reduceEqDiff, false_and, and_false, true_and, and_true, and_self, or_true, true_or, or_false, false_or]
                                rw [hz168.1 2065 (by decide), hz161.1 2065 (by decide), hz97.1 2065 (by decide), if_neg (by omega)]
                                exact h87_5.2 j hj
                            · rw [(tk_00 (b := b) (n := n) (A := sDeed b n (A 4 1) (sNext b n A1)) (B := sNext b n (sNext b n (sNext b n A1))) (by rw [hDD, up_f (by decide)])).1]
                              simp only [zuI_1, zuI_2, zuJ_1, zuJ_2, zuJ_3, zuP_1, zuP_2, zuP_3, zuC_1, zuC_2, reduceIte, Nat.reduceEqDiff, false_and, and_false, true_and, and_true, and_self, or_true, true_or, or_false, false_or]
                              exact b4.symm
                            obtain ⟨j1, lwG8, j2, j3, j4, j5, j6, j7⟩ := hG8
                            refine zs_goto (tgt := 87) (pc := 190) C dX9_personLine_190 (by decide) ?_
                            exact zs_wk (ih87 _ _ _ j1 j2 j3 (by omega) j5 j6 (by rw [← h87_6]; exact (dds_s h87_2.1 hw2 (by omega)).symm) (by omega) (by with_reducible repeat (first | exact LJr_rf | assumption | refine LJr_I (h := 0) (by decide) (Nat.zero_le _) ?_ | refine LJr_I (h := 3) (by decide) (by omega) ?_ | refine LJr_I (h := 4) (by decide) (by omega) ?_ | refine LJr_I (h := 5) (by decide) (by omega) ?_ | refine LJr_I (h := 7) (by decide) (by omega) ?_ | refine LJr_I (h := 20) (by decide) (by omega) ?_ | refine LJr_I (h := 64) (by decide) (by omega) ?_ | refine LJr_c (by assumption) ?_)) (by omega)) (zwk_s rfl (zwk_s rfl (zwk_n zwk_0)))
                          · skip
                            refine zs_iconst (pc := 174) C dX9_personLine_174 (by decide) ?_
                            exact zs_zret (pc := 175) C hr hlk dX9_personLine_175 (by omega) ⟨by repeat (first | exact zsm_rf | assumption | refine zsm_C (by decide) ?_ | refine zsm_I (by decide) ?_ | refine zsm_J ?_ | refine zsm_c (by assumption) (by decide) ?_), (by with_reducible repeat (first | exact LJr_rf | assumption | refine LJr_I (h := 0) (by decide) (Nat.zero_le _) ?_ | refine LJr_I (h := 3) (by decide) (by omega) ?_ | refine LJr_I (h := 4) (by decide) (by omega) ?_ | refine LJr_I (h := 5) (by decide) (by omega) ?_ | refine LJr_I (h := 7) (by decide) (by omega) ?_ | refine LJr_I (h := 20) (by decide) (by omega) ?_ | refine LJr_I (h := 64) (by decide) (by omega) ?_ | refine LJr_c (by assumption) ?_)), ⟨by omega, fun q => by omega, fun _ => FT_dd (FT_up (by decide) (by decide) (hq168.2.1 (by omega))) h87_6 h87_2.1 hw2 (by omega) (sDeed_n r105 (by omega) (by omega))⟩⟩
                        · skip
                          refine zs_aload_n (pc := 154) C dX9_personLine_154 rfl ?_
                          refine zs_iconst (pc := 155) C dX9_personLine_155 (by decide) ?_
                          refine zVi1 (pc := 156) C dX9_personLine_156 v_X9_220 (c_X9_wrongY hX ) (by decide) (by decide) ⟨Nat.zero_le _, Nat.zero_le _⟩ (Nat.le_of_ble_eq_true rfl) (fun x156 G156 l156 u156 hp156 => ?_)
                          obtain ⟨hz156, lo156, hq156⟩ := hp156
                          have tr156_1018 := zsm_at hz156 1018 w 0 (by decide)
                          try simp only [zuI_1, zuI_2, zuJ_1, zuJ_2, zuJ_3, zuP_1, zuP_2, zuP_3, zuC_1, zuC_2, reduceIte, Nat.reduceEqDiff, false_and, and_false, true_and, and_true, and_self, or_true, true_or, or_false, false_or] at tr156_1018
                          have tr156_1017 := zsm_at hz156 1017 w 0 (by decide)
                          try simp only [zuI_1, zuI_2, zuJ_1, zuJ_2, zuJ_3, zuP_1, zuP_2, zuP_3, zuC_1, zuC_2, reduceIte, Nat.reduceEqDiff, false_and, and_false, true_and, and_true, and_self, or_true, true_or, or_false, false_or] at tr156_1017
                          exact zs_zret (pc := 159) C hr hlk dX9_personLine_159 (by omega) ⟨by repeat (first | exact zsm_rf | assumption | refine zsm_C (by decide) ?_ | refine zsm_I (by decide) ?_ | refine zsm_J ?_ | refine zsm_c (by assumption) (by decide) ?_), (by with_reducible repeat (first | exact LJr_rf | assumption | refine LJr_I (h := 0) (by decide) (Nat.zero_le _) ?_ | refine LJr_I (h := 3) (by decide) (by omega) ?_ | refine LJr_I (h := 4) (by decide) (by omega) ?_ | refine LJr_I (h := 5) (by decide) (by omega) ?_ | refine LJr_I (h := 7) (by decide) (by omega) ?_ | refine LJr_I (h := 20) (by decide) (by omega) ?_ | refine LJr_I (h := 64) (by decide) (by omega) ?_ | refine LJr_c (by assumption) ?_)), ⟨by omega, fun q => by omega, fun _ => FT_dd (FT_fail (by rw [sNext_f (by decide)]; exact h87_2.1) (show (3 : Int) ≠ 0 by decide) hq156.2.1 (hq156.2.2.trans g97)) h87_6 h87_2.1 hw2 (by omega) (sDeed_3 r105 (by omega) (by omega))⟩⟩
                      · skip
                        refine zs_aload_n (pc := 135) C dX9_personLine_135 rfl ?_
                        refine zs_iconst (pc := 136) C dX9_personLine_136 (by decide) ?_
                        refine zVi1 (pc := 137) C dX9_personLine_137 v_X9_220 (c_X9_wrongY hX ) (by decide) (by decide) ⟨Nat.zero_le _, Nat.zero_le _⟩ (Nat.le_of_ble_eq_true rfl) (fun x137 G137 l137 u137 hp137 => ?_)
                        obtain ⟨hz137, lo137, hq137⟩ := hp137
                        have tr137_1018 := zsm_at hz137 1018 w 0 (by decide)
                        try simp only [zuI_1, zuI_2, zuJ_1, zuJ_2, zuJ_3, zuP_1, zuP_2, zuP_3, zuC_1, zuC_2, reduceIte, Nat.reduceEqDiff, false_and, and_false, true_and, and_true, and_self, or_true, true_or, or_false, false_or] at tr137_1018
                        have tr137_1017 := zsm_at hz137 1017 w 0 (by decide)
                        try simp only [zuI_1, zuI_2, zuJ_1, zuJ_2, zuJ_3, zuP_1, zuP_2, zuP_3, zuC_1, zuC_2, reduceIte, Nat.reduceEqDiff, false_and, and_false, true_and, and_true, and_self, or_true, true_or, or_false, false_or] at tr137_1017
                        exact zs_zret (pc := 140) C hr hlk dX9_personLine_140 (by omega) ⟨by repeat (first | exact zsm_rf | assumption | refine zsm_C (by decide) ?_ | refine zsm_I (by decide) ?_ | refine zsm_J ?_ | refine zsm_c (by assumption) (by decide) ?_), (by with_reducible repeat (first | exact LJr_rf | assumption | refine LJr_I (h := 0) (by decide) (Nat.zero_le _) ?_ | refine LJr_I (h := 3) (by decide) (by omega) ?_ | refine LJr_I (h := 4) (by decide) (by omega) ?_ | refine LJr_I (h := 5) (by decide) (by omega) ?_ | refine LJr_I (h := 7) (by decide) (by omega) ?_ | refine LJr_I (h := 20) (by decide) (by omega) ?_ | refine LJr_I (h := 64) (by decide) (by omega) ?_ | refine LJr_c (by assumption) ?_)), ⟨by omega, fun q => by omega, fun _ => FT_dd (FT_fail (by rw [sNext_f (by decide)]; exact h87_2.1) (show (4 : Int) ≠ 0 by decide) hq137.2.1 (hq137.2.2.trans g97)) h87_6 h87_2.1 hw2 (by omega) (sDeed_4 r105 (by omega))⟩⟩
                    · skip
                      have r105 : tK b n (sNext b n A1) ≠ 1 := fun q => (by have q2 := gn97.1.mpr q; omega)
                      clear gn97
                      refine zs_aload_n (pc := 108) C dX9_personLine_108 rfl ?_
                      refine zs_iconst (pc := 109) C dX9_personLine_109 (by decide) ?_
                      refine zVi1 (pc := 110) C dX9_personLine_110 v_X9_220 (c_X9_wrongY hX ) (by decide) (by decide) ⟨Nat.zero_le _, Nat.zero_le _⟩ (Nat.le_of_ble_eq_true rfl) (fun x110 G110 l110 u110 hp110 => ?_)
                      obtain ⟨hz110, lo110, hq110⟩ := hp110
                      have tr110_1018 := zsm_at hz110 1018 w 0 (by decide)
                      try simp only [zuI_1, zuI_2, zuJ_1, zuJ_2, zuJ_3, zuP_1, zuP_2, zuP_3, zuC_1, zuC_2, reduceIte, Nat.reduceEqDiff, false_and, and_false, true_and, and_true, and_self, or_true, true_or, or_false, false_or] at tr110_1018
                      have tr110_1017 := zsm_at hz110 1017 w 0 (by decide)
                      try simp only [zuI_1, zuI_2, zuJ_1, zuJ_2, zuJ_3, zuP_1, zuP_2, zuP_3, zuC_1, zuC_2, reduceIte, Nat.reduceEqDiff, false_and, and_false, true_and, and_true, and_self, or_true, true_or, or_false, false_or] at tr110_1017
                      exact zs_zret (pc := 113) C hr hlk dX9_personLine_113 (by omega) ⟨by repeat (first | exact zsm_rf | assumption | refine zsm_C (by decide) ?_ | refine zsm_I (by decide) ?_ | refine zsm_J ?_ | refine zsm_c (by assumption) (by decide) ?_), (by with_reducible repeat (first | exact LJr_rf | assumption | refine LJr_I (h := 0) (by decide) (Nat.zero_le _) ?_ | refine LJr_I (h := 3) (by decide) (by omega) ?_ | refine LJr_I (h := 4) (by decide) (by omega) ?_ | refine LJr_I (h := 5) (by decide) (by omega) ?_ | refine LJr_I (h := 7) (by decide) (by omega) ?_ | refine LJr_I (h := 20) (by decide) (by omega) ?_ | refine LJr_I (h := 64) (by decide) (by omega) ?_ | refine LJr_c (by assumption) ?_)), ⟨by omega, fun q => by omega, fun _ => FT_dd (FT_fail (by rw [sNext_f (by decide)]; exact h87_2.1) (show (1 : Int) ≠ 0 by decide) hq110.2.1 (hq110.2.2.trans g97)) h87_6 h87_2.1 hw2 (by omega) (sDeed_1 r105)⟩⟩
              exact zs_wk (L87 _ _ _ _ (zsm_mo h65_1 (by decide)) (gT_sm h65_1 (by decide) hh2) ⟨by rw [hH, up_f (by decide), sNext_f (by decide)]; exact hn1, (by have q := zsm_at h65_1 1004 w 0 (by decide); have q2 := hF.2.1; omega), (by rw [hH, up_f (by decide), sNext_f (by decide), sNew_1f (by decide) (by decide) (by decide) he]; have q := zsm_at h65_1 1005 w 0 (by decide); have q2 := hF.2.2; omega)⟩ (by have q := zsm_at h65_1 1010 w 0 (by decide); omega) ⟨fun f j _ _ => rfl, fun j _ => by rw [hH, up_f (by decide), sNext_f (by decide), sNew_1f (by decide) (by decide) (by decide) he]⟩ ⟨fun s hs => (by have q := hp9.2.2.2.2.2 (4 * (A 4 1).toNat + s) (by omega) (by omega); rw [h65_2, if_pos (by omega), hH, up_f (by decide), sNext_f (by decide), sNew_1f (by decide) (by decide) (by decide) he, q]; exact ⟨rfl, Int.le_refl _⟩), fun j hj => (by rw [h65_2, if_neg (by omega), hh9])⟩ (show sDeeds b n (A 4 1) 700 (sHon b n A) = sPerson b n A from (by unfold sPerson; rw [hpv])) (by have q := hh2.2.2.2.2.1; omega) (by with_reducible repeat (first | exact LJr_rf | assumption | refine LJr_I (h := 0) (by decide) (Nat.zero_le _) ?_ | refine LJr_I (h := 3) (by decide) (by omega) ?_ | refine LJr_I (h := 4) (by decide) (by omega) ?_ | refine LJr_I (h := 5) (by decide) (by omega) ?_ | refine LJr_I (h := 7) (by decide) (by omega) ?_ | refine LJr_I (h := 20) (by decide) (by omega) ?_ | refine LJr_I (h := 64) (by decide) (by omega) ?_ | refine LJr_c (by assumption) ?_)) (Nat.lt_succ_self _)) (zwk_s rfl (zwk_s rfl (zwk_n zwk_0)))
            · skip
              refine zs_aload_n (pc := 70) C dX9_personLine_70 rfl ?_
              refine zs_getf (pc := 71) C dX9_personLine_71 w_X9_39 f_10_28 (by decide) ?_
              refine zs_iconst (pc := 74) C dX9_personLine_74 (by decide) ?_
              refine zs_iload_n (pc := 75) C dX9_personLine_75 rfl ?_
              first | refine zs_imul (pc := 76) C dX9_personLine_76 (by omega) ?_ | refine zs_imulF (pc := 76) C dX9_personLine_76 (fun z76 hz761 hz762 => ?_)
              refine zs_iload_n (pc := 77) C dX9_personLine_77 rfl ?_
              first | refine zs_iadd (pc := 78) C dX9_personLine_78 (by omega) ?_ | refine zs_iaddF (pc := 78) C dX9_personLine_78 (fun z78 hz781 hz782 => ?_)
              refine zs_iconst (pc := 79) C dX9_personLine_79 (by decide) ?_
              refine zs_iast (r := 2065) (pc := 80) C dX9_personLine_80 a_65 (by decide) (by omega) rfl (r_2065 _) (by omega) ?_
              first | refine zs_iinc (pc := 81) C dX9_personLine_81 rfl (by decide) (by omega) ?_ | refine zs_iincF (pc := 81) C dX9_personLine_81 rfl (by decide) (fun z81 hz811 hz812 => ?_)
              dsimp only [zset, zclr, znone]
              refine zs_goto (tgt := 65) (pc := 84) C dX9_personLine_84 (by decide) ?_
              exact zs_wk (ih65 _ _ (by omega) (zsm_I (by decide) h65_1) (fun j => by simp only [zuI_1, zuI_2, zuJ_1, zuJ_2, zuJ_3, zuP_1, zuP_2, zuP_3, zuC_1, zuC_2, reduceIte, Nat.reduceEqDiff, false_and, and_false, true_and, and_true, and_self, or_true, true_or, or_false, false_or]; by_cases q : j = (4 * (5 + v20) + x2).toNat; (rw [if_pos q, if_pos (by omega)]); (rw [if_neg q, h65_2 j]; by_cases q2 : 20 + 4 * A 4 1 ≤ (j : Int) ∧ (j : Int) < 20 + 4 * A 4 1 + x2; (rw [if_pos q2, if_pos (by omega)]); (rw [if_neg q2, if_neg (by omega)]))) (by with_reducible repeat (first | exact LJr_rf | assumption | refine LJr_I (h := 0) (by decide) (Nat.zero_le _) ?_ | refine LJr_I (h := 3) (by decide) (by omega) ?_ | refine LJr_I (h := 4) (by decide) (by omega) ?_ | refine LJr_I (h := 5) (by decide) (by omega) ?_ | refine LJr_I (h := 7) (by decide) (by omega) ?_ | refine LJr_I (h := 20) (by decide) (by omega) ?_ | refine LJr_I (h := 64) (by decide) (by omega) ?_ | refine LJr_c (by assumption) ?_)) (by first | omega | (simp only [zuI_1, zuI_2, zuJ_1, zuJ_2, zuJ_3, zuP_1, zuP_2, zuP_3, zuC_1, zuC_2, reduceIte, Nat.reduceEqDiff, false_and, and_false, true_and, and_true, and_self, or_true, true_or, or_false, false_or]; omega))) (zwk_s rfl (zwk_s rfl (zwk_s rfl zwk_0)))
        exact zs_wk (L65 _ _ _ (by omega) zsm_rf (fun j => by rw [if_neg (by omega)]) (by with_reducible repeat (first | exact LJr_rf | assumption | refine LJr_I (h := 0) (by decide) (Nat.zero_le _) ?_ | refine LJr_I (h := 3) (by decide) (by omega) ?_ | refine LJr_I (h := 4) (by decide) (by omega) ?_ | refine LJr_I (h := 5) (by decide) (by omega) ?_ | refine LJr_I (h := 7) (by decide) (by omega) ?_ | refine LJr_I (h := 20) (by decide) (by omega) ?_ | refine LJr_I (h := 64) (by decide) (by omega) ?_ | refine LJr_c (by assumption) ?_)) (Nat.lt_succ_self _)) (zwk_s rfl (zwk_s rfl (zwk_s rfl zwk_0)))
      · skip
        refine zs_iconst (pc := 51) C dX9_personLine_51 (by decide) ?_
        exact zs_zret (pc := 52) C hr hlk dX9_personLine_52 (by omega) ⟨by repeat (first | exact zsm_rf | assumption | refine zsm_C (by decide) ?_ | refine zsm_I (by decide) ?_ | refine zsm_J ?_ | refine zsm_c (by assumption) (by decide) ?_), (by with_reducible repeat (first | exact LJr_rf | assumption | refine LJr_I (h := 0) (by decide) (Nat.zero_le _) ?_ | refine LJr_I (h := 3) (by decide) (by omega) ?_ | refine LJr_I (h := 4) (by decide) (by omega) ?_ | refine LJr_I (h := 5) (by decide) (by omega) ?_ | refine LJr_I (h := 7) (by decide) (by omega) ?_ | refine LJr_I (h := 20) (by decide) (by omega) ?_ | refine LJr_I (h := 64) (by decide) (by omega) ?_ | refine LJr_c (by assumption) ?_)), ⟨by omega, fun q => by omega, fun _ => (by first | (have hFN := hq45.2.1 (by omega); rw [sPer_ne (by rw [sHon_1 hFN.1]; exact hFN.1), sHon_1 hFN.1]; exact hFN) | (have hFN := sNew_F h0 hn9 hfd (hq35.2.1 (by omega)); rw [sPer_ne (by rw [sHon_0 hFN.1]; exact hFN.1), sHon_0 hFN.1]; exact hFN))⟩⟩
  · skip
    refine zs_aload_n (pc := 8) C dX9_personLine_8 rfl ?_
    refine zs_iconst (pc := 9) C dX9_personLine_9 (by decide) ?_
    refine zVi1 (pc := 10) C dX9_personLine_10 v_X9_220 (c_X9_wrongY hX ) (by decide) (by decide) ⟨Nat.zero_le _, Nat.zero_le _⟩ (Nat.le_of_ble_eq_true rfl) (fun x10 G10 l10 u10 hp10 => ?_)
    obtain ⟨hz10, lo10, hq10⟩ := hp10
    have tr10_1018 := zsm_at hz10 1018 w 0 (by decide)
    try simp only [zuI_1, zuI_2, zuJ_1, zuJ_2, zuJ_3, zuP_1, zuP_2, zuP_3, zuC_1, zuC_2, reduceIte, Nat.reduceEqDiff, false_and, and_false, true_and, and_true, and_self, or_true, true_or, or_false, false_or] at tr10_1018
    have tr10_1017 := zsm_at hz10 1017 w 0 (by decide)
    try simp only [zuI_1, zuI_2, zuJ_1, zuJ_2, zuJ_3, zuP_1, zuP_2, zuP_3, zuC_1, zuC_2, reduceIte, Nat.reduceEqDiff, false_and, and_false, true_and, and_true, and_self, or_true, true_or, or_false, false_or] at tr10_1017
    exact zs_zret (pc := 13) C hr hlk dX9_personLine_13 (by omega) ⟨by repeat (first | exact zsm_rf | assumption | refine zsm_C (by decide) ?_ | refine zsm_I (by decide) ?_ | refine zsm_J ?_ | refine zsm_c (by assumption) (by decide) ?_), (by with_reducible repeat (first | exact LJr_rf | assumption | refine LJr_I (h := 0) (by decide) (Nat.zero_le _) ?_ | refine LJr_I (h := 3) (by decide) (by omega) ?_ | refine LJr_I (h := 4) (by decide) (by omega) ?_ | refine LJr_I (h := 5) (by decide) (by omega) ?_ | refine LJr_I (h := 7) (by decide) (by omega) ?_ | refine LJr_I (h := 20) (by decide) (by omega) ?_ | refine LJr_I (h := 64) (by decide) (by omega) ?_ | refine LJr_c (by assumption) ?_)), ⟨by omega, fun q => by omega, fun _ => (by have hfu := sNew_full (b := b) (n := n) (kd := 1) (A := A) (by rw [mc.2.1]; show (5 : Int) ≤ A 4 1; omega); have hFN : FT w (sNew b n 1 A) G10 := (by rw [hfu]; exact FT_fail h0 (by decide) hq10.2.1 (hq10.2.2.trans g10)); rw [sPer_ne (by rw [sHon_0 hFN.1]; exact hFN.1), sHon_0 hFN.1]; exact hFN)⟩⟩
