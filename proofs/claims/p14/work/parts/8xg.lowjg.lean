set_option maxHeartbeats 4000000 in
set_option maxRecDepth 100000 in
theorem c_X9_sumReadY {l : Launch} {Γ : zΓ} {G : zH} {w : Nat} {b : Nat → Int} {n : Int} {A : aS} {kk : Int}  (hX : zXs Γ) (hM : MI Γ w G)(hG : gT b n Γ w A G) (hK : gK Γ w A G) (h0 : A 1 0 = 0) (h4 : G.1 1004 w 0 = 0 ∧ G.1 1005 w 0 = A 2 0) (hc : A 21 0 = A 20 0) (hf : 2 ≤ tP b n A ∧ n ≤ 700) : zMet l Γ yX9_sumRead cX9_sumRead 1 (some .boolean) 3 [zr 10 w] G (zpi (fun x G' => zsm [1007, 1008, 1009, 1010, 1004, 1005, 2074, 2075, 2076, 2078, 1043, 1021, 2077, 1042, 1044, 1045, 1046, 1047] G G' ∧ LJr G G' ∧ ((x = 0 ∨ x = 1) ∧ MI Γ w G' ∧ (x = 1 → 1 ≤ G'.1 1021 w 0 ∧ G'.1 1045 w 0 = G'.1 1021 w 0 ∧ G.1 1010 w 0 ≤ G'.1 1010 w 0 ∧ gT b n Γ w (sRel 0 (sEL b n 700 1 (sBeg kk A))) G' ∧ gK Γ w (sRel 0 (sEL b n 700 1 (sBeg kk A))) G' ∧ (sRel 0 (sEL b n 700 1 (sBeg kk A))) 1 0 = 0 ∧ G'.1 1004 w 0 = 0 ∧ G'.1 1005 w 0 = (sRel 0 (sEL b n 700 1 (sBeg kk A))) 2 0 ∧ tK b n (sRel 0 (sEL b n 700 1 (sBeg kk A))) = 4 ∧ tV b n (sRel 0 (sEL b n 700 1 (sBeg kk A))) = 17 ∧ A 20 0 < (sRel 0 (sEL b n 700 1 (sBeg kk A))) 20 0) ∧ (x = 0 → FT w (sSemi b n (sE b n kk A)) G')))) := by
  have aa21 := hK.1
  have aa45 := hK.2.1
  have hgl := hG.2.2.2.1
  refine zMet_of RX9 hX (by decide) rfl (Nat.le_of_ble_eq_true rfl) ?_
  intro p e s m args below meth c C hr hlk
  show Z p l e (zrm 3) s m args below meth c Γ 1 0 0 (MQ below (zQc Γ (zpi (fun x G' => zsm [1007, 1008, 1009, 1010, 1004, 1005, 2074, 2075, 2076, 2078, 1043, 1021, 2077, 1042, 1044, 1045, 1046, 1047] G G' ∧ LJr G G' ∧ ((x = 0 ∨ x = 1) ∧ MI Γ w G' ∧ (x = 1 → 1 ≤ G'.1 1021 w 0 ∧ G'.1 1045 w 0 = G'.1 1021 w 0 ∧ G.1 1010 w 0 ≤ G'.1 1010 w 0 ∧ gT b n Γ w (sRel 0 (sEL b n 700 1 (sBeg kk A))) G' ∧ gK Γ w (sRel 0 (sEL b n 700 1 (sBeg kk A))) G' ∧ (sRel 0 (sEL b n 700 1 (sBeg kk A))) 1 0 = 0 ∧ G'.1 1004 w 0 = 0 ∧ G'.1 1005 w 0 = (sRel 0 (sEL b n 700 1 (sBeg kk A))) 2 0 ∧ tK b n (sRel 0 (sEL b n 700 1 (sBeg kk A))) = 4 ∧ tV b n (sRel 0 (sEL b n 700 1 (sBeg kk A))) = 17 ∧ A 20 0 < (sRel 0 (sEL b n 700 1 (sBeg kk A))) 20 0) ∧ (x = 0 → FT w (sSemi b n (sE b n kk A)) G'))))) args s 0 0 (zA Γ)) 0 [some (zr 10 w)] [] G
  refine zs_aload_n (pc := 0) C dX9_sumRead_0 rfl ?_
  refine zs_iconst (pc := 1) C dX9_sumRead_1 (by decide) ?_
  refine zs_puti (r := 1042) (pc := 2) C dX9_sumRead_2 w_X9_313 f_10_42 rfl (r_1042 0) (by omega) ?_
  refine zs_aload_n (pc := 5) C dX9_sumRead_5 rfl ?_
  refine zs_iconst (pc := 6) C dX9_sumRead_6 (by decide) ?_
  refine zs_puti (r := 1043) (pc := 7) C dX9_sumRead_7 w_X9_310 f_10_43 rfl (r_1043 0) (by omega) ?_
  refine zs_aload_n (pc := 10) C dX9_sumRead_10 rfl ?_
  refine zs_iconst (pc := 11) C dX9_sumRead_11 (by decide) ?_
  refine zs_puti (r := 1044) (pc := 12) C dX9_sumRead_12 w_X9_328 f_10_44 rfl (r_1044 0) (by omega) ?_
  refine zs_aload_n (pc := 15) C dX9_sumRead_15 rfl ?_
  refine zs_iconst (pc := 16) C dX9_sumRead_16 (by decide) ?_
  refine zs_putz (r := 1046) (pc := 17) C dX9_sumRead_17 w_X9_345 f_10_46 rfl (r_1046 0) (by omega) (by omega) ?_
  refine zs_aload_n (pc := 20) C dX9_sumRead_20 rfl ?_
  refine zs_iconst (pc := 21) C dX9_sumRead_21 (by decide) ?_
  refine zs_putz (r := 1047) (pc := 22) C dX9_sumRead_22 w_X9_335 f_10_47 rfl (r_1047 0) (by omega) (by omega) ?_
  have L25 : ∀ (nn : Nat) (G1 : zH) (A1 : aS) (m1 : Nat), (zsm [1007, 1008, 1009, 1010, 1004, 1005, 2074, 2075, 2076, 2078, 1043, 1021, 2077, 1042, 1044, 1045, 1046, 1047] G G1) → (MI Γ w G1) → (PI Γ w G1) → (gX b n Γ w A1 G1) → (G.1 1010 w 0 ≤ G1.1 1010 w 0) → (sEL b n m1 1 A1 = sEL b n 700 1 (sBeg kk A)) → (n - tP b n A1 < m1) → (A 20 0 ≤ A1 20 0 ∧ (A1 24 0 = 0 → A 20 0 < A1 20 0)) → (LJr G G1) → (701 - G1.1 1010 w 0).toNat < nn → Z p l e (zrm 3) s m args below meth c Γ 1 0 0 (MQ below (zQc Γ (zpi (fun x G' => zsm [1007, 1008, 1009, 1010, 1004, 1005, 2074, 2075, 2076, 2078, 1043, 1021, 2077, 1042, 1044, 1045, 1046, 1047] G G' ∧ LJr G G' ∧ ((x = 0 ∨ x = 1) ∧ MI Γ w G' ∧ (x = 1 → 1 ≤ G'.1 1021 w 0 ∧ G'.1 1045 w 0 = G'.1 1021 w 0 ∧ G.1 1010 w 0 ≤ G'.1 1010 w 0 ∧ gT b n Γ w (sRel 0 (sEL b n 700 1 (sBeg kk A))) G' ∧ gK Γ w (sRel 0 (sEL b n 700 1 (sBeg kk A))) G' ∧ (sRel 0 (sEL b n 700 1 (sBeg kk A))) 1 0 = 0 ∧ G'.1 1004 w 0 = 0 ∧ G'.1 1005 w 0 = (sRel 0 (sEL b n 700 1 (sBeg kk A))) 2 0 ∧ tK b n (sRel 0 (sEL b n 700 1 (sBeg kk A))) = 4 ∧ tV b n (sRel 0 (sEL b n 700 1 (sBeg kk A))) = 17 ∧ A 20 0 < (sRel 0 (sEL b n 700 1 (sBeg kk A))) 20 0) ∧ (x = 0 → FT w (sSemi b n (sE b n kk A)) G'))))) args s 0 0 (zA Γ)) 25 [some (zr 10 w)] [] G1 := by
    intro nn
    induction nn with
    | zero => intro G1 A1 m1 h25_0 h25_1 h25_2 h25_3 h25_4 h25_5 h25_6 h25_7 h25_8 hm; exact absurd hm (Nat.not_lt_zero _)
    | succ nn ih25 =>
      intro G1 A1 m1 h25_0 h25_1 h25_2 h25_3 h25_4 h25_5 h25_6 h25_7 h25_8 hm25
      refine zs_good (fun hGdg => ?_)
      have hbg_1042 := hGdg.1 1042 w 0
      rw [r_1042] at hbg_1042
      have hbg_1010 := hGdg.1 1010 w 0
      rw [r_1010] at hbg_1010
      have p1 := h25_2.1
      have p2 := h25_2.2.1
      have p3 := h25_2.2.2.1
      have p4 := h25_2.2.2.2
      have k3 := c3_le (G1.1 2077 (Γ.2.1 w 40)) (G1.1 1042 w 0).toNat
      have k0 := c0_le (G1.1 2077 (Γ.2.1 w 40)) (G1.1 1042 w 0).toNat
      have b42 := h25_3.2.2.1.1
      have b43 := h25_3.2.2.1.2.1
      have b44 := h25_3.2.2.1.2.2.1
      have b46 := h25_3.2.2.1.2.2.2.1
      have b47 := h25_3.2.2.1.2.2.2.2.1
      have b21 := h25_3.2.1.1
      have b45 := h25_3.2.1.2.1
      have b10 := h25_3.1.2.2.2.2.1
      have bn := h25_3.1.2.2.2.1
      have bsz : A1 20 0 ≤ A1 21 0 := by omega
      refine zs_aload_n (pc := 25) C dX9_sumRead_25 rfl ?_
      refine zs_bipush (pc := 26) C dX9_sumRead_26 (by decide) (by decide) ?_
      refine zVip1 (pc := 28) C dX9_sumRead_28 v_X9_233 (c_X9_isSignG hX ) (by decide) (by decide) ⟨Nat.zero_le _, Nat.zero_le _⟩ (Nat.le_of_ble_eq_true rfl) (fun x28 l28 u28 hp28 => ?_)
      have hq28 := hp28
      have z28 := hq28.2.trans (gT_sig h25_3.1 (c := 59) (s := 17) (by omega))
      have b28 := hq28.1
      clear hq28 hp28
      have J48 : ∀ (G0 : zH), (G0 = G1) → (¬ (tK b n A1 = 4 ∧ tV b n A1 = 17 ∧ A1 24 0 = 0 ∧ A1 23 0 = 0)) → Z p l e (zrm 3) s m args below meth c Γ 1 0 0 (MQ below (zQc Γ (zpi (fun x G' => zsm [1007, 1008, 1009, 1010, 1004, 1005, 2074, 2075, 2076, 2078, 1043, 1021, 2077, 1042, 1044, 1045, 1046, 1047] G G' ∧ LJr G G' ∧ ((x = 0 ∨ x = 1) ∧ MI Γ w G' ∧ (x = 1 → 1 ≤ G'.1 1021 w 0 ∧ G'.1 1045 w 0 = G'.1 1021 w 0 ∧ G.1 1010 w 0 ≤ G'.1 1010 w 0 ∧ gT b n Γ w (sRel 0 (sEL b n 700 1 (sBeg kk A))) G' ∧ gK Γ w (sRel 0 (sEL b n 700 1 (sBeg kk A))) G' ∧ (sRel 0 (sEL b n 700 1 (sBeg kk A))) 1 0 = 0 ∧ G'.1 1004 w 0 = 0 ∧ G'.1 1005 w 0 = (sRel 0 (sEL b n 700 1 (sBeg kk A))) 2 0 ∧ tK b n (sRel 0 (sEL b n 700 1 (sBeg kk A))) = 4 ∧ tV b n (sRel 0 (sEL b n 700 1 (sBeg kk A))) = 17 ∧ A 20 0 < (sRel 0 (sEL b n 700 1 (sBeg kk A))) 20 0) ∧ (x = 0 → FT w (sSemi b n (sE b n kk A)) G'))))) args s 0 0 (zA Γ)) 48 [some (zr 10 w)] [] G0 := by
        intro G0 h48_0 h48_1
        rw [h48_0]
        clear z28 b28 p1 p2 p3 p4 k3 k0
        refine zs_aload_n (pc := 48) C dX9_sumRead_48 rfl ?_
        refine zs_getz (r := 1046) (pc := 49) C dX9_sumRead_49 w_X9_345 f_10_46 rfl (r_1046 0) (fun v49 e49 l49 u49 => ?_)
        refine zs_if_eq (tgt := 65) (pc := 52) C dX9_sumRead_52 (by decide) (fun h52 => ?_) (fun h52 => ?_)
        · skip
          refine zs_aload_n (pc := 65) C dX9_sumRead_65 rfl ?_
          refine zVi0 (pc := 66) C dX9_sumRead_66 v_X9_354 (c_X9_signsY hX h25_1 h25_3.1 h25_2 h25_3.2.1 h25_3.2.2.1 h25_3.2.2.2.1 h25_3.2.2.2.2 (by omega) (fun q => h48_1 ⟨q.1, q.2.1, by omega, q.2.2⟩)) (by decide) (by decide) ⟨Nat.zero_le _, Nat.zero_le _⟩ (Nat.le_of_ble_eq_true rfl) (fun x66 G66 l66 u66 hp66 => ?_)
          obtain ⟨hz66, lo66, hq66⟩ := hp66
          have tr66_1006 := zsm_at hz66 1006 w 0 (by decide)
          try simp only [zuI_1, zuI_2, zuJ_1, zuJ_2, zuJ_3, zuP_1, zuP_2, zuP_3, zuC_1, zuC_2, reduceIte, Nat.reduceEqDiff, false_and, and_false, true_and, and_true, and_self, or_true, true_or, or_false, false_or] at tr66_1006
          have hMI := hq66.2.1
          have hx := hq66.2.2.1
          have hy := hq66.2.2.2
          refine zs_if_ne (tgt := 25) (pc := 69) C dX9_sumRead_69 (by decide) (fun h69 => ?_) (fun h69 => ?_)
          · skip
            have hy1 := hx (by omega)
            have s1 := hy1.1
            have s2 := hy1.2.1
            have s3 := hy1.2.2.1
            have s4 := s3.1.2.2.2.2.1
            have q9 := szBehind (b := b) (n := n) (A := A1)
            have s5 : A 20 0 ≤ (sBehind b n A1) 20 0 ∧ ((sBehind b n A1) 24 0 = 0 → A 20 0 < (sBehind b n A1) 20 0) := ⟨Int.le_trans h25_7.1 q9, fun _ => Int.lt_of_lt_of_le (h25_7.2 (by omega)) q9⟩
            have s6 := sEL_beh (b := b) (n := n) (m := m1) h25_3.2.2.2.1 (by omega) (by omega)
            rw [hy1.2.2.2] at s6
            clear hx hy hy1 q9
            exact zs_wk (ih25 _ _ _ (by repeat (first | exact zsm_rf | assumption | refine zsm_C (by decide) ?_ | refine zsm_I (by decide) ?_ | refine zsm_J ?_ | refine zsm_c (by assumption) (by decide) ?_)) hMI s1 s3 (by omega) (by rw [← h25_5]; exact s6.symm) (by omega) s5 (by with_reducible repeat (first | exact LJr_rf | assumption | refine LJr_I (h := 0) (by decide) (Nat.zero_le _) ?_ | refine LJr_I (h := 3) (by decide) (by omega) ?_ | refine LJr_I (h := 4) (by decide) (by omega) ?_ | refine LJr_I (h := 5) (by decide) (by omega) ?_ | refine LJr_I (h := 7) (by decide) (by omega) ?_ | refine LJr_I (h := 20) (by decide) (by omega) ?_ | refine LJr_I (h := 64) (by decide) (by omega) ?_ | refine LJr_c (by assumption) ?_)) (by omega)) (zwk_s rfl zwk_0)
          · skip
            have hFE : FT w (sSemi b n (sE b n kk A)) G66 := by
              have q := hy (by omega)
              exact FT_E (B := sBehind b n A1) q.1 (by rw [← h25_5, sEL_beh h25_3.2.2.2.1 (by omega) (by omega)]; exact sEL_e (fun q9 => by rcases q.2 with z | z; exact q9.2 z; exact z q9.1) _)
            clear hx hy
            refine zs_iconst (pc := 72) C dX9_sumRead_72 (by decide) ?_
            exact zs_zret (pc := 73) C hr hlk dX9_sumRead_73 (by omega) ⟨by repeat (first | exact zsm_rf | assumption | refine zsm_C (by decide) ?_ | refine zsm_I (by decide) ?_ | refine zsm_J ?_ | refine zsm_c (by assumption) (by decide) ?_), (by with_reducible repeat (first | exact LJr_rf | assumption | refine LJr_I (h := 0) (by decide) (Nat.zero_le _) ?_ | refine LJr_I (h := 3) (by decide) (by omega) ?_ | refine LJr_I (h := 4) (by decide) (by omega) ?_ | refine LJr_I (h := 5) (by decide) (by omega) ?_ | refine LJr_I (h := 7) (by decide) (by omega) ?_ | refine LJr_I (h := 20) (by decide) (by omega) ?_ | refine LJr_I (h := 64) (by decide) (by omega) ?_ | refine LJr_c (by assumption) ?_)), ⟨by omega, hMI, fun q => by omega, fun _ => hFE⟩⟩
        · skip
          refine zs_aload_n (pc := 55) C dX9_sumRead_55 rfl ?_
          refine zVi0 (pc := 56) C dX9_sumRead_56 v_X9_351 (c_X9_leafReadY hX h25_1 h25_3.1 h25_2 h25_3.2.1 h25_3.2.2.1 h25_3.2.2.2.1 h25_3.2.2.2.2 (by omega)) (by decide) (by decide) ⟨Nat.zero_le _, Nat.zero_le _⟩ (Nat.le_of_ble_eq_true rfl) (fun x56 G56 l56 u56 hp56 => ?_)
          obtain ⟨hz56, lo56, hq56⟩ := hp56
          have tr56_1006 := zsm_at hz56 1006 w 0 (by decide)
          try simp only [zuI_1, zuI_2, zuJ_1, zuJ_2, zuJ_3, zuP_1, zuP_2, zuP_3, zuC_1, zuC_2, reduceIte, Nat.reduceEqDiff, false_and, and_false, true_and, and_true, and_self, or_true, true_or, or_false, false_or] at tr56_1006
          have hMI := hq56.2.1
          have hx := hq56.2.2.1
          have hy := hq56.2.2.2
          refine zs_if_eq (tgt := 72) (pc := 59) C dX9_sumRead_59 (by decide) (fun h59 => ?_) (fun h59 => ?_)
          · skip
            have hFE : FT w (sSemi b n (sE b n kk A)) G56 := by
              have q := hy (by omega)
              exact FT_E (B := sSide b n A1) (by rw [sSemi_ne q.1]; exact q) (by rw [← h25_5, sEL_side h25_3.2.2.2.1 (by omega) (by omega)]; exact sEL_e (fun q9 => q.1 q9.1) _)
            clear hx hy
            refine zs_iconst (pc := 72) C dX9_sumRead_72 (by decide) ?_
            exact zs_zret (pc := 73) C hr hlk dX9_sumRead_73 (by omega) ⟨by repeat (first | exact zsm_rf | assumption | refine zsm_C (by decide) ?_ | refine zsm_I (by decide) ?_ | refine zsm_J ?_ | refine zsm_c (by assumption) (by decide) ?_), (by with_reducible repeat (first | exact LJr_rf | assumption | refine LJr_I (h := 0) (by decide) (Nat.zero_le _) ?_ | refine LJr_I (h := 3) (by decide) (by omega) ?_ | refine LJr_I (h := 4) (by decide) (by omega) ?_ | refine LJr_I (h := 5) (by decide) (by omega) ?_ | refine LJr_I (h := 7) (by decide) (by omega) ?_ | refine LJr_I (h := 20) (by decide) (by omega) ?_ | refine LJr_I (h := 64) (by decide) (by omega) ?_ | refine LJr_c (by assumption) ?_)), ⟨by omega, hMI, fun q => by omega, fun _ => hFE⟩⟩
          · skip
            have hy1 := hx (by omega)
            have s1 := hy1.1
            have s2 := hy1.2.1
            have s3 := hy1.2.2
            have s4 := s3.1.2.2.2.2.1
            have q9 := szSide (b := b) (n := n) (A := A1) bsz s3.2.2.2.1
            have s5 : A 20 0 ≤ (sSide b n A1) 20 0 ∧ ((sSide b n A1) 24 0 = 0 → A 20 0 < (sSide b n A1) 20 0) := ⟨Int.le_trans h25_7.1 q9.1, fun q => Int.lt_of_le_of_lt h25_7.1 (q9.2 (by omega) q)⟩
            have s6 := sEL_side (b := b) (n := n) (m := m1) h25_3.2.2.2.1 (by omega) (by omega)
            clear hx hy hy1 q9
            refine zs_goto (tgt := 25) (pc := 62) C dX9_sumRead_62 (by decide) ?_
            exact zs_wk (ih25 _ _ _ (by repeat (first | exact zsm_rf | assumption | refine zsm_C (by decide) ?_ | refine zsm_I (by decide) ?_ | refine zsm_J ?_ | refine zsm_c (by assumption) (by decide) ?_)) hMI s1 s3 (by omega) (by rw [← h25_5]; exact s6.symm) (by omega) s5 (by with_reducible repeat (first | exact LJr_rf | assumption | refine LJr_I (h := 0) (by decide) (Nat.zero_le _) ?_ | refine LJr_I (h := 3) (by decide) (by omega) ?_ | refine LJr_I (h := 4) (by decide) (by omega) ?_ | refine LJr_I (h := 5) (by decide) (by omega) ?_ | refine LJr_I (h := 7) (by decide) (by omega) ?_ | refine LJr_I (h := 20) (by decide) (by omega) ?_ | refine LJr_I (h := 64) (by decide) (by omega) ?_ | refine LJr_c (by assumption) ?_)) (by omega)) (zwk_s rfl zwk_0)
      refine zs_if_eq (tgt := 48) (pc := 31) C dX9_sumRead_31 (by decide) (fun h31 => ?_) (fun h31 => ?_)
      · skip
        exact zs_wk (J48 _ rfl (fun q => by first | (have q2 := z28.mpr ⟨q.1, q.2.1⟩; omega) | (have q2 := q.2.2; omega))) (zwk_s rfl zwk_0)
      · skip
        refine zs_aload_n (pc := 34) C dX9_sumRead_34 rfl ?_
        refine zs_getz (r := 1046) (pc := 35) C dX9_sumRead_35 w_X9_345 f_10_46 rfl (r_1046 0) (fun v35 e35 l35 u35 => ?_)
        refine zs_if_ne (tgt := 48) (pc := 38) C dX9_sumRead_38 (by decide) (fun h38 => ?_) (fun h38 => ?_)
        · skip
          exact zs_wk (J48 _ rfl (fun q => by first | (have q2 := z28.mpr ⟨q.1, q.2.1⟩; omega) | (have q2 := q.2.2; omega))) (zwk_s rfl zwk_0)
        · skip
          refine zs_aload_n (pc := 41) C dX9_sumRead_41 rfl ?_
          refine zs_geti (r := 1044) (pc := 42) C dX9_sumRead_42 w_X9_328 f_10_44 rfl (r_1044 0) (fun v42 e42 l42 u42 => ?_)
          refine zs_if_le (tgt := 74) (pc := 45) C dX9_sumRead_45 (by decide) (fun h45 => ?_) (fun h45 => ?_)
          · skip
            have hz := z28.mp (by omega)
            clear z28
            refine zs_aload_n (pc := 74) C dX9_sumRead_74 rfl ?_
            refine zs_iconst (pc := 75) C dX9_sumRead_75 (by decide) ?_
            refine zVv1 (pc := 76) C dX9_sumRead_76 v_X9_348 (c_X9_bindY hX h25_1 h25_2 h25_3.2.1 h25_3.2.2.1 (by omega) (by omega)) (by decide) (by decide) ⟨Nat.zero_le _, Nat.zero_le _⟩ (Nat.le_of_ble_eq_true rfl) (fun G76 hp76 => ?_)
            obtain ⟨hz76, lo76, hq76⟩ := hp76
            have tr76_1044 := zsm_at hz76 1044 w 0 (by decide)
            try simp only [zuI_1, zuI_2, zuJ_1, zuJ_2, zuJ_3, zuP_1, zuP_2, zuP_3, zuC_1, zuC_2, reduceIte, Nat.reduceEqDiff, false_and, and_false, true_and, and_true, and_self, or_true, true_or, or_false, false_or] at tr76_1044
            have tr76_1045 := zsm_at hz76 1045 w 0 (by decide)
            try simp only [zuI_1, zuI_2, zuJ_1, zuJ_2, zuJ_3, zuP_1, zuP_2, zuP_3, zuC_1, zuC_2, reduceIte, Nat.reduceEqDiff, false_and, and_false, true_and, and_true, and_self, or_true, true_or, or_false, false_or] at tr76_1045
            have tr76_1046 := zsm_at hz76 1046 w 0 (by decide)
            try simp only [zuI_1, zuI_2, zuJ_1, zuJ_2, zuJ_3, zuP_1, zuP_2, zuP_3, zuC_1, zuC_2, reduceIte, Nat.reduceEqDiff, false_and, and_false, true_and, and_true, and_self, or_true, true_or, or_false, false_or] at tr76_1046
            have tr76_1007 := zsm_at hz76 1007 w 0 (by decide)
            try simp only [zuI_1, zuI_2, zuJ_1, zuJ_2, zuJ_3, zuP_1, zuP_2, zuP_3, zuC_1, zuC_2, reduceIte, Nat.reduceEqDiff, false_and, and_false, true_and, and_true, and_self, or_true, true_or, or_false, false_or] at tr76_1007
            have tr76_1010 := zsm_at hz76 1010 w 0 (by decide)
            try simp only [zuI_1, zuI_2, zuJ_1, zuJ_2, zuJ_3, zuP_1, zuP_2, zuP_3, zuC_1, zuC_2, reduceIte, Nat.reduceEqDiff, false_and, and_false, true_and, and_true, and_self, or_true, true_or, or_false, false_or] at tr76_1010
            have tr76_1006 := zsm_at hz76 1006 w 0 (by decide)
            try simp only [zuI_1, zuI_2, zuJ_1, zuJ_2, zuJ_3, zuP_1, zuP_2, zuP_3, zuC_1, zuC_2, reduceIte, Nat.reduceEqDiff, false_and, and_false, true_and, and_true, and_self, or_true, true_or, or_false, false_or] at tr76_1006
            have tr76_1008 := zsm_at hz76 1008 w 0 (by decide)
            try simp only [zuI_1, zuI_2, zuJ_1, zuJ_2, zuJ_3, zuP_1, zuP_2, zuP_3, zuC_1, zuC_2, reduceIte, Nat.reduceEqDiff, false_and, and_false, true_and, and_true, and_self, or_true, true_or, or_false, false_or] at tr76_1008
            have tr76_1009 := zsm_at hz76 1009 w 0 (by decide)
            try simp only [zuI_1, zuI_2, zuJ_1, zuJ_2, zuJ_3, zuP_1, zuP_2, zuP_3, zuC_1, zuC_2, reduceIte, Nat.reduceEqDiff, false_and, and_false, true_and, and_true, and_self, or_true, true_or, or_false, false_or] at tr76_1009
            have hMI := hq76.1
            have hPI76 := hq76.2.1
            have top := hq76.2.2.1 (by omega)
            have hK76 := hq76.2.2.2.1
            have p1b := hPI76.1
            have p2b := hPI76.2.1
            have p3b := hPI76.2.2.1
            have p4b := hPI76.2.2.2
            have k3b := c3_le (G76.1 2077 (Γ.2.1 w 40)) (G76.1 1042 w 0).toNat
            have k0b := c0_le (G76.1 2077 (Γ.2.1 w 40)) (G76.1 1042 w 0).toNat
            refine zs_good (fun hGdh => ?_)
            have hbh_1042 := hGdh.1 1042 w 0
            rw [r_1042] at hbh_1042
            have hz0 : G76.1 1042 w 0 = 0 := by
              rcases top with q | q
              · exact q
              · rcases Int.lt_or_le 0 (G76.1 1042 w 0) with q2 | q2
                · have c0p := (c0_pop (W := G76.1 2077 (Γ.2.1 w 40)) (n := G76.1 1042 w 0) (by omega)).1 q
                  have c0l := c0_le (G76.1 2077 (Γ.2.1 w 40)) (G76.1 1042 w 0 - 1).toNat
                  omega
                · omega
            have hel : sEL b n 700 1 (sBeg kk A) = A1 := by rw [← h25_5]; exact sEL_semi h25_3.2.2.2.1 (by omega) (by omega) (by omega) hz.1 hz.2
            have h01 : sRel 0 A1 = sRel 1 A1 := rel_01 (fun j hj => by
              have q1 := h25_3.2.2.1.2.2.2.2.2.1 j hj
              have q2 := zct_z (f := fun i => decide (G1.1 2077 (Γ.2.1 w 40) i < 2)) (G1.1 1042 w 0).toNat (by have := h25_2.2.1; unfold c0 at this; omega) j (by omega)
              have q3 : ¬ G1.1 2077 (Γ.2.1 w 40) j < 2 := by simpa using q2
              exact bnd_pos q1.2 (by rw [← q1.1]; exact q3))
            have hA2 : (sRel 0 (sEL b n 700 1 (sBeg kk A))) = sRel 1 A1 := by rw [hel, h01]
            have hsz := szRel (r := 1) (A := A1)
            have hT76 : gT b n Γ w (sRel 1 A1) G76 := gT_A (sRel_0 (by decide)).symm (gT_sm hz76 (by decide) h25_3.1)
            have h1 : (sRel 1 A1) 1 0 = 0 := by rw [sRel_0 (by decide)]; exact h25_3.2.2.2.1
            have h2 : (sRel 1 A1) 2 0 = A1 2 0 := sRel_0 (by decide)
            have k76 := hK76.1
            have k77 := hK76.2.1
            have u4 := zsm_at hz76 1004 w 0 (by decide)
            have u5 := zsm_at hz76 1005 w 0 (by decide)
            have tk := tk_00 (b := b) (n := n) (A := sRel 1 A1) (B := A1) (sRel_0 (by decide))
            refine zs_iconst (pc := 79) C dX9_sumRead_79 (by decide) ?_
            exact zs_zret (pc := 80) C hr hlk dX9_sumRead_80 (by omega) ⟨by repeat (first | exact zsm_rf | assumption | refine zsm_C (by decide) ?_ | refine zsm_I (by decide) ?_ | refine zsm_J ?_ | refine zsm_c (by assumption) (by decide) ?_), (by with_reducible repeat (first | exact LJr_rf | assumption | refine LJr_I (h := 0) (by decide) (Nat.zero_le _) ?_ | refine LJr_I (h := 3) (by decide) (by omega) ?_ | refine LJr_I (h := 4) (by decide) (by omega) ?_ | refine LJr_I (h := 5) (by decide) (by omega) ?_ | refine LJr_I (h := 7) (by decide) (by omega) ?_ | refine LJr_I (h := 20) (by decide) (by omega) ?_ | refine LJr_I (h := 64) (by decide) (by omega) ?_ | refine LJr_c (by assumption) ?_)), ⟨by omega, hMI, fun _ => ⟨by omega, by omega, by omega, by rw [hA2]; exact hT76, by rw [hA2]; exact hK76, by rw [hA2]; exact h1, (by have := h25_3.2.2.2.2.1; omega), (by rw [hA2, h2]; have := h25_3.2.2.2.2.2; omega), (by rw [hA2, tk.2.1]; exact hz.1), (by rw [hA2, tk.2.2.1]; exact hz.2), by rw [hA2]; omega⟩, fun q => by omega⟩⟩
          · skip
            exact zs_wk (J48 _ rfl (fun q => by first | (have q2 := z28.mpr ⟨q.1, q.2.1⟩; omega) | (have q2 := q.2.2; omega))) (zwk_s rfl zwk_0)
  exact zs_wk (L25 _ _ _ _ (by repeat (first | exact zsm_rf | assumption | refine zsm_C (by decide) ?_ | refine zsm_I (by decide) ?_ | refine zsm_J ?_ | refine zsm_c (by assumption) (by decide) ?_)) (by repeat (first | assumption | refine MI_I (by decide) ?_ | refine MI_J ?_ | refine MI_sm (by assumption) (by decide) ?_ | refine MI_sn (by assumption) (by decide) ?_)) (PI_0 (by first | omega | (simp only [zuI_1, zuI_2, zuJ_1, zuJ_2, zuJ_3, zuP_1, zuP_2, zuP_3, zuC_1, zuC_2, reduceIte, Nat.reduceEqDiff, false_and, and_false, true_and, and_true, and_self, or_true, true_or, or_false, false_or] <;> omega)) (by first | omega | (simp only [zuI_1, zuI_2, zuJ_1, zuJ_2, zuJ_3, zuP_1, zuP_2, zuP_3, zuC_1, zuC_2, reduceIte, Nat.reduceEqDiff, false_and, and_false, true_and, and_true, and_self, or_true, true_or, or_false, false_or] <;> omega)) (by first | omega | (simp only [zuI_1, zuI_2, zuJ_1, zuJ_2, zuJ_3, zuP_1, zuP_2, zuP_3, zuC_1, zuC_2, reduceIte, Nat.reduceEqDiff, false_and, and_false, true_and, and_true, and_self, or_true, true_or, or_false, false_or] <;> omega)) (by first | omega | (simp only [zuI_1, zuI_2, zuJ_1, zuJ_2, zuJ_3, zuP_1, zuP_2, zuP_3, zuC_1, zuC_2, reduceIte, Nat.reduceEqDiff, false_and, and_false, true_and, and_true, and_self, or_true, true_or, or_false, false_or] <;> omega)) (by first | omega | (simp only [zuI_1, zuI_2, zuJ_1, zuJ_2, zuJ_3, zuP_1, zuP_2, zuP_3, zuC_1, zuC_2, reduceIte, Nat.reduceEqDiff, false_and, and_false, true_and, and_true, and_self, or_true, true_or, or_false, false_or] <;> omega))) (by
        refine ⟨gT_A (A := A) (sBeg_f (by decide) (by decide)).symm (by repeat (first | assumption | decide | apply gT_I | apply gT_sm)), ?_, ?_, ?_, ?_, ?_⟩
        · exact gK_of (A := A) (G := G) (fun f j hf => by rcases hf with rfl | rfl | rfl | hf; exact sBeg_f (by decide) (by decide); exact sBeg_f (by decide) (by decide); exact sBeg_f (by decide) (by decide); exact sBeg_g (by omega)) (by simp only [zuI_1, zuI_2, zuJ_1, zuJ_2, zuJ_3, zuP_1, zuP_2, zuP_3, zuC_1, zuC_2, reduceIte, Nat.reduceEqDiff, false_and, and_false, true_and, and_true, and_self, or_true, true_or, or_false, false_or]) (by simp only [zuI_1, zuI_2, zuJ_1, zuJ_2, zuJ_3, zuP_1, zuP_2, zuP_3, zuC_1, zuC_2, reduceIte, Nat.reduceEqDiff, false_and, and_false, true_and, and_true, and_self, or_true, true_or, or_false, false_or]) (by simp (disch := decide) only [zuI_nf]) (by simp (disch := decide) only [zuI_nf]) (by simp (disch := decide) only [zuI_nf]) hK
        · refine ⟨?_, ?_, ?_, ?_, ?_, fun j hj => ?_, fun j hj => ?_⟩
          · rw [(sBeg_e kk A).1]; simp only [zuI_1, zuI_2, zuJ_1, zuJ_2, zuJ_3, zuP_1, zuP_2, zuP_3, zuC_1, zuC_2, reduceIte, Nat.reduceEqDiff, false_and, and_false, true_and, and_true, and_self, or_true, true_or, or_false, false_or]
          · rw [(sBeg_e kk A).2.2.2.2]; simp only [zuI_1, zuI_2, zuJ_1, zuJ_2, zuJ_3, zuP_1, zuP_2, zuP_3, zuC_1, zuC_2, reduceIte, Nat.reduceEqDiff, false_and, and_false, true_and, and_true, and_self, or_true, true_or, or_false, false_or]
          · rw [(sBeg_e kk A).2.1]; simp only [zuI_1, zuI_2, zuJ_1, zuJ_2, zuJ_3, zuP_1, zuP_2, zuP_3, zuC_1, zuC_2, reduceIte, Nat.reduceEqDiff, false_and, and_false, true_and, and_true, and_self, or_true, true_or, or_false, false_or]
          · rw [(sBeg_e kk A).2.2.1]; simp only [zuI_1, zuI_2, zuJ_1, zuJ_2, zuJ_3, zuP_1, zuP_2, zuP_3, zuC_1, zuC_2, reduceIte, Nat.reduceEqDiff, false_and, and_false, true_and, and_true, and_self, or_true, true_or, or_false, false_or]
          · rw [(sBeg_e kk A).2.2.2.1]; simp only [zuI_1, zuI_2, zuJ_1, zuJ_2, zuJ_3, zuP_1, zuP_2, zuP_3, zuC_1, zuC_2, reduceIte, Nat.reduceEqDiff, false_and, and_false, true_and, and_true, and_self, or_true, true_or, or_false, false_or]
          · rw [(sBeg_e kk A).1] at hj; omega
          · rw [(sBeg_e kk A).2.2.2.2] at hj; omega
        · rw [sBeg_f (by decide) (by decide)]; exact h0
        · simp only [zuI_1, zuI_2, zuJ_1, zuJ_2, zuJ_3, zuP_1, zuP_2, zuP_3, zuC_1, zuC_2, reduceIte, Nat.reduceEqDiff, false_and, and_false, true_and, and_true, and_self, or_true, true_or, or_false, false_or]; exact h4.1
        · rw [sBeg_f (by decide) (by decide)]; simp only [zuI_1, zuI_2, zuJ_1, zuJ_2, zuJ_3, zuP_1, zuP_2, zuP_3, zuC_1, zuC_2, reduceIte, Nat.reduceEqDiff, false_and, and_false, true_and, and_true, and_self, or_true, true_or, or_false, false_or]; exact h4.2) (by first | omega | (simp only [zuI_1, zuI_2, zuJ_1, zuJ_2, zuJ_3, zuP_1, zuP_2, zuP_3, zuC_1, zuC_2, reduceIte, Nat.reduceEqDiff, false_and, and_false, true_and, and_true, and_self, or_true, true_or, or_false, false_or]; omega)) rfl (by rw [(tk_00 (b := b) (n := n) (A := (sBeg kk A)) (B := A) (sBeg_f (by decide) (by decide))).1]; omega) (by rw [sBeg_f (by decide) (by decide), (sBeg_e kk A).2.2.1]; omega) (by with_reducible repeat (first | exact LJr_rf | assumption | refine LJr_I (h := 0) (by decide) (Nat.zero_le _) ?_ | refine LJr_I (h := 3) (by decide) (by omega) ?_ | refine LJr_I (h := 4) (by decide) (by omega) ?_ | refine LJr_I (h := 5) (by decide) (by omega) ?_ | refine LJr_I (h := 7) (by decide) (by omega) ?_ | refine LJr_I (h := 20) (by decide) (by omega) ?_ | refine LJr_I (h := 64) (by decide) (by omega) ?_ | refine LJr_c (by assumption) ?_)) (Nat.lt_succ_self _)) (zwk_s rfl zwk_0)
