set_option maxHeartbeats 4000000 in
set_option maxRecDepth 100000 in
theorem c_X9_lawReadY {l : Launch} {Γ : zΓ} {G : zH} {w : Nat} {b : Nat → Int} {n : Int} {A : aS} {k kk : Int} (hX : zXs Γ) (hM : MI Γ w G)(hC : RC Γ w G) (hG : gT b n Γ w A G) (hF : gF w A G) (hL : gL Γ w A G) (hK : gK Γ w A G) (hc : A 21 0 = A 20 0) (hk : k = 7 + kk ∧ 0 ≤ kk ∧ kk < 7) (hf : 2 ≤ tP b n A ∧ n ≤ 700) : zMet l Γ yX9_lawRead cX9_lawRead 2 (some .boolean) 4 [zr 10 w, zi k] G (zpi (fun x G' => zsm [1007, 1008, 1009, 1010, 1004, 1005, 2074, 2075, 2076, 2078, 1043, 1021, 2077, 1042, 1044, 1045, 1046, 1047, 2071, 2072, 2073] G G' ∧ LJr G G' ∧ ((x = 0 ∨ x = 1) ∧ MI Γ w G' ∧ (x = 1 → RC Γ w G' ∧ G.1 1010 w 0 ≤ G'.1 1010 w 0 ∧ gT b n Γ w (sE b n kk A) G' ∧ gF w (sE b n kk A) G' ∧ gL Γ w (sE b n kk A) G' ∧ gK Γ w (sE b n kk A) G' ∧ (sE b n kk A) 21 0 = (sE b n kk A) 20 0 ∧ tK b n (sE b n kk A) = 4 ∧ tV b n (sE b n kk A) = 17) ∧ (x = 0 → FT w (sSemi b n (sE b n kk A)) G')))) := by
  have aa21 := hK.1
  refine zMet_of RX9 hX (by decide) rfl (Nat.le_of_ble_eq_true rfl) ?_
  intro p e s m args below meth c C hr hlk
  show Z p l e (zrm 4) s m args below meth c Γ 2 0 0 (MQ below (zQc Γ (zpi (fun x G' => zsm [1007, 1008, 1009, 1010, 1004, 1005, 2074, 2075, 2076, 2078, 1043, 1021, 2077, 1042, 1044, 1045, 1046, 1047, 2071, 2072, 2073] G G' ∧ LJr G G' ∧ ((x = 0 ∨ x = 1) ∧ MI Γ w G' ∧ (x = 1 → RC Γ w G' ∧ G.1 1010 w 0 ≤ G'.1 1010 w 0 ∧ gT b n Γ w (sE b n kk A) G' ∧ gF w (sE b n kk A) G' ∧ gL Γ w (sE b n kk A) G' ∧ gK Γ w (sE b n kk A) G' ∧ (sE b n kk A) 21 0 = (sE b n kk A) 20 0 ∧ tK b n (sE b n kk A) = 4 ∧ tV b n (sE b n kk A) = 17) ∧ (x = 0 → FT w (sSemi b n (sE b n kk A)) G'))))) args s 0 0 (zA Γ)) 0 [some (zr 10 w), some (zi k)] [] G
  refine zs_loc 1 rfl (fun ha1 hb1 => ?_)
  refine zs_aload_n (pc := 0) C dX9_lawRead_0 rfl ?_
  refine zs_getf (pc := 1) C dX9_lawRead_1 w_X9_57 f_10_34 (by decide) ?_
  refine zs_iload_n (pc := 4) C dX9_lawRead_4 rfl ?_
  refine zs_iconst (pc := 5) C dX9_lawRead_5 (by decide) ?_
  refine zs_zast (r := 2071) (pc := 6) C dX9_lawRead_6 a_71 (by decide) (by omega) rfl (r_2071 _) (by omega) (by omega) ?_
  refine zs_aload_n (pc := 7) C dX9_lawRead_7 rfl ?_
  refine zs_getf (pc := 8) C dX9_lawRead_8 w_X9_60 f_10_35 (by decide) ?_
  refine zs_iload_n (pc := 11) C dX9_lawRead_11 rfl ?_
  refine zs_aload_n (pc := 12) C dX9_lawRead_12 rfl ?_
  refine zs_geti (r := 1021) (pc := 13) C dX9_lawRead_13 w_X9_252 f_10_21 rfl (r_1021 0) (fun v13 e13 l13 u13 => ?_)
  try simp only [zuI_1, zuI_2, zuJ_1, zuJ_2, zuJ_3, zuP_1, zuP_2, zuP_3, zuC_1, zuC_2, reduceIte, Nat.reduceEqDiff, false_and, and_false, true_and, and_true, and_self, or_true, true_or, or_false, false_or] at e13
  refine zs_iast (r := 2072) (pc := 16) C dX9_lawRead_16 a_72 (by decide) (by omega) rfl (r_2072 _) (by omega) ?_
  refine zs_aload_n (pc := 17) C dX9_lawRead_17 rfl ?_
  refine zVi0 (pc := 18) C dX9_lawRead_18 v_X9_291 (c_X9_sumReadY (kk := kk) (A := A) hX (MI_I (by decide) (MI_h71 (by omega) hM)) (by repeat (first | assumption | decide | apply gT_I | apply gT_sm)) (by repeat (first | assumption | decide | apply gK_I | apply gK_sm)) hF.1 (by simp only [zuI_1, zuI_2, zuJ_1, zuJ_2, zuJ_3, zuP_1, zuP_2, zuP_3, zuC_1, zuC_2, reduceIte, Nat.reduceEqDiff, false_and, and_false, true_and, and_true, and_self, or_true, true_or, or_false, false_or]; exact hF.2) hc hf) (by decide) (by decide) ⟨Nat.zero_le _, Nat.zero_le _⟩ (Nat.le_of_ble_eq_true rfl) (fun x18 G18 l18 u18 hp18 => ?_)
  obtain ⟨hz18, lo18, hq18⟩ := hp18
  try simp only [zuI_1, zuI_2, zuJ_1, zuJ_2, zuJ_3, zuP_1, zuP_2, zuP_3, zuC_1, zuC_2, reduceIte, Nat.reduceEqDiff, false_and, and_false, true_and, and_true, and_self, or_true, true_or, or_false, false_or] at hq18
  have hMI := hq18.2.1
  have hx := hq18.2.2.1
  refine zs_if_ne (tgt := 26) (pc := 21) C dX9_lawRead_21 (by decide) (fun h21 => ?_) (fun h21 => ?_)
  · skip
    have hy := hx (by omega)
    obtain ⟨y1, y2, y3, y4, y5, y6, y7, y8, y9, y10, y11⟩ := hy
    have e71 := hz18.1 2071 (by decide)
    have e72 := hz18.1 2072 (by decide)
    have e73 := hz18.1 2073 (by decide)
    have y5a := y5.1
    have y5b := y5.2.1
    have hg : gL Γ w (sE b n kk A) (zuI G18 2073 (Γ.2.1 w 36) k.toNat ((sRel 0 (sEL b n 700 1 (sBeg kk A))) 20 0)) := gL_law hL hk y11 (fun j => sE_16 hk.2) (fun j => sE_17 hk.2)
      (fun j => by rw [zuI_nf (by decide), e71, zuI_nf (by decide)]; simp only [zuI_1, zuI_2, zuJ_1, zuJ_2, zuJ_3, zuP_1, zuP_2, zuP_3, zuC_1, zuC_2, reduceIte, Nat.reduceEqDiff, false_and, and_false, true_and, and_true, and_self, or_true, true_or, or_false, false_or])
      (fun j => by rw [zuI_nf (by decide), e72]; simp only [zuI_1, zuI_2, zuJ_1, zuJ_2, zuJ_3, zuP_1, zuP_2, zuP_3, zuC_1, zuC_2, reduceIte, Nat.reduceEqDiff, false_and, and_false, true_and, and_true, and_self, or_true, true_or, or_false, false_or]; rw [show v13 = A 20 0 by omega])
      (fun j => by simp only [zuI_1, zuI_2, zuJ_1, zuJ_2, zuJ_3, zuP_1, zuP_2, zuP_3, zuC_1, zuC_2, reduceIte, Nat.reduceEqDiff, false_and, and_false, true_and, and_true, and_self, or_true, true_or, or_false, false_or]; rw [e73, zuI_nf (by decide), zuI_nf (by decide)])
    have t00 := tk_00 (b := b) (n := n) (A := (sE b n kk A)) (B := (sRel 0 (sEL b n 700 1 (sBeg kk A)))) (sE_20 (by decide))
    clear hx
    refine zs_aload_n (pc := 26) C dX9_lawRead_26 rfl ?_
    refine zs_getf (pc := 27) C dX9_lawRead_27 w_X9_63 f_10_36 (by decide) ?_
    refine zs_iload_n (pc := 30) C dX9_lawRead_30 rfl ?_
    refine zs_aload_n (pc := 31) C dX9_lawRead_31 rfl ?_
    refine zs_geti (r := 1021) (pc := 32) C dX9_lawRead_32 w_X9_252 f_10_21 rfl (r_1021 0) (fun v32 e32 l32 u32 => ?_)
    refine zs_iast (r := 2073) (pc := 35) C dX9_lawRead_35 a_73 (by decide) (by omega) rfl (r_2073 _) (by omega) ?_
    refine zs_iconst (pc := 36) C dX9_lawRead_36 (by decide) ?_
    exact zs_zret (pc := 37) C hr hlk dX9_lawRead_37 (by omega) ⟨by repeat (first | exact zsm_rf | assumption | refine zsm_C (by decide) ?_ | refine zsm_I (by decide) ?_ | refine zsm_J ?_ | refine zsm_c (by assumption) (by decide) ?_), (by with_reducible repeat (first | exact LJr_rf | assumption | refine LJr_I (h := 0) (by decide) (Nat.zero_le _) ?_ | refine LJr_I (h := 3) (by decide) (by omega) ?_ | refine LJr_I (h := 4) (by decide) (by omega) ?_ | refine LJr_I (h := 5) (by decide) (by omega) ?_ | refine LJr_I (h := 7) (by decide) (by omega) ?_ | refine LJr_I (h := 20) (by decide) (by omega) ?_ | refine LJr_I (h := 64) (by decide) (by omega) ?_ | refine LJr_c (by assumption) ?_)), ⟨by omega, (by exact MI_h73 (by omega) hMI), fun _ => (by
          rw [show v32 = (sRel 0 (sEL b n 700 1 (sBeg kk A))) 20 0 by omega]
          refine ⟨RC_law hz18 (by decide) hC y2 (by omega), ?_, ?_, ?_, hg, ?_, ?_, ?_, ?_⟩
          · have t10 : (zuI G18 2073 (Γ.2.1 w 36) k.toNat ((sRel 0 (sEL b n 700 1 (sBeg kk A))) 20 0)).1 1010 w 0 = G18.1 1010 w 0 := (by simp only [zuI_1, zuI_2, zuJ_1, zuJ_2, zuJ_3, zuP_1, zuP_2, zuP_3, zuC_1, zuC_2, reduceIte, Nat.reduceEqDiff, false_and, and_false, true_and, and_true, and_self, or_true, true_or, or_false, false_or])
            rw [t10]
            have y3b := y3
            try simp only [zuI_1, zuI_2, zuJ_1, zuJ_2, zuJ_3, zuP_1, zuP_2, zuP_3, zuC_1, zuC_2, reduceIte, Nat.reduceEqDiff, false_and, and_false, true_and, and_true, and_self, or_true, true_or, or_false, false_or] at y3b
            omega
          · exact gT_A (A := (sRel 0 (sEL b n 700 1 (sBeg kk A)))) (sE_20 (by decide)).symm (gT_I (by decide) y4)
          · refine ⟨by rw [sE_20 (by decide)]; exact y6, by simp only [zuI_1, zuI_2, zuJ_1, zuJ_2, zuJ_3, zuP_1, zuP_2, zuP_3, zuC_1, zuC_2, reduceIte, Nat.reduceEqDiff, false_and, and_false, true_and, and_true, and_self, or_true, true_or, or_false, false_or]; exact y7, ?_⟩
            rw [sE_20 (by decide)]
            simp only [zuI_1, zuI_2, zuJ_1, zuJ_2, zuJ_3, zuP_1, zuP_2, zuP_3, zuC_1, zuC_2, reduceIte, Nat.reduceEqDiff, false_and, and_false, true_and, and_true, and_self, or_true, true_or, or_false, false_or]
            exact y8
          · exact gK_of (A := (sRel 0 (sEL b n 700 1 (sBeg kk A)))) (G := G18) (fun f j hf9 => sE_20 (by omega)) (by simp only [zuI_1, zuI_2, zuJ_1, zuJ_2, zuJ_3, zuP_1, zuP_2, zuP_3, zuC_1, zuC_2, reduceIte, Nat.reduceEqDiff, false_and, and_false, true_and, and_true, and_self, or_true, true_or, or_false, false_or]) (by simp only [zuI_1, zuI_2, zuJ_1, zuJ_2, zuJ_3, zuP_1, zuP_2, zuP_3, zuC_1, zuC_2, reduceIte, Nat.reduceEqDiff, false_and, and_false, true_and, and_true, and_self, or_true, true_or, or_false, false_or]) (zuI_nf (by decide)) (zuI_nf (by decide)) (zuI_nf (by decide)) y5
          · rw [sE_20 (by decide), sE_20 (by decide)]; omega
          · rw [t00.2.1]; exact y9
          · rw [t00.2.2.1]; exact y10), fun q => by omega⟩⟩
  · skip
    refine zs_iconst (pc := 24) C dX9_lawRead_24 (by decide) ?_
    exact zs_zret (pc := 25) C hr hlk dX9_lawRead_25 (by omega) ⟨by repeat (first | exact zsm_rf | assumption | refine zsm_C (by decide) ?_ | refine zsm_I (by decide) ?_ | refine zsm_J ?_ | refine zsm_c (by assumption) (by decide) ?_), (by with_reducible repeat (first | exact LJr_rf | assumption | refine LJr_I (h := 0) (by decide) (Nat.zero_le _) ?_ | refine LJr_I (h := 3) (by decide) (by omega) ?_ | refine LJr_I (h := 4) (by decide) (by omega) ?_ | refine LJr_I (h := 5) (by decide) (by omega) ?_ | refine LJr_I (h := 7) (by decide) (by omega) ?_ | refine LJr_I (h := 20) (by decide) (by omega) ?_ | refine LJr_I (h := 64) (by decide) (by omega) ?_ | refine LJr_c (by assumption) ?_)), ⟨by omega, hMI, fun q => by omega, fun _ => hq18.2.2.2 (by omega)⟩⟩
