set_option maxHeartbeats 4000000 in
set_option maxRecDepth 100000 in
theorem c_X9_wrongY {l : Launch} {Γ : zΓ} {G : zH} {w : Nat} {k : Int} (hX : zXs Γ)  : zMet l Γ yX9_wrong cX9_wrong 2 (some .boolean) 0 [zr 10 w, zi k] G (zpi (fun x G' => zsm [1004, 1005] G G' ∧ LJr G G' ∧ (x = 0 ∧ G'.1 1004 w 0 = k ∧ G'.1 1005 w 0 = G.1 1010 w 0))) := by
  refine zMet_of RX9 hX (by decide) rfl (Nat.le_of_ble_eq_true rfl) ?_
  intro p e s m args below meth c C hr hlk
  show Z p l e (zrm 0) s m args below meth c Γ 2 0 0 (MQ below (zQc Γ (zpi (fun x G' => zsm [1004, 1005] G G' ∧ LJr G G' ∧ (x = 0 ∧ G'.1 1004 w 0 = k ∧ G'.1 1005 w 0 = G.1 1010 w 0)))) args s 0 0 (zA Γ)) 0 [some (zr 10 w), some (zi k)] [] G
  refine zs_loc 1 rfl (fun ha1 hb1 => ?_)
  refine zs_aload_n (pc := 0) C dX9_wrong_0 rfl ?_
  refine zs_iload_n (pc := 1) C dX9_wrong_1 rfl ?_
  refine zs_puti (r := 1004) (pc := 2) C dX9_wrong_2 w_X9_184 f_10_4 rfl (r_1004 0) (by omega) ?_
  refine zs_aload_n (pc := 5) C dX9_wrong_5 rfl ?_
  refine zs_aload_n (pc := 6) C dX9_wrong_6 rfl ?_
  refine zs_geti (r := 1010) (pc := 7) C dX9_wrong_7 w_X9_187 f_10_10 rfl (r_1010 0) (fun v7 e7 l7 u7 => ?_)
  try simp only [zuI_1, zuI_2, zuJ_1, zuJ_2, zuJ_3, zuP_1, zuP_2, zuP_3, zuC_1, zuC_2, reduceIte, Nat.reduceEqDiff, false_and, and_false, true_and, and_true, and_self, or_true, true_or, or_false, false_or] at e7
  refine zs_puti (r := 1005) (pc := 10) C dX9_wrong_10 w_X9_16 f_10_5 rfl (r_1005 0) (by omega) ?_
  refine zs_iconst (pc := 13) C dX9_wrong_13 (by decide) ?_
  exact zs_zret (pc := 14) C hr hlk dX9_wrong_14 (by omega) ⟨by repeat (first | exact zsm_rf | assumption | refine zsm_C (by decide) ?_ | refine zsm_I (by decide) ?_ | refine zsm_J ?_ | refine zsm_c (by assumption) (by decide) ?_), (by with_reducible repeat (first | exact LJr_rf | assumption | refine LJr_I (h := 0) (by decide) (Nat.zero_le _) ?_ | refine LJr_I (h := 3) (by decide) (by omega) ?_ | refine LJr_I (h := 4) (by decide) (by omega) ?_ | refine LJr_I (h := 5) (by decide) (by omega) ?_ | refine LJr_I (h := 7) (by decide) (by omega) ?_ | refine LJr_I (h := 20) (by decide) (by omega) ?_ | refine LJr_I (h := 64) (by decide) (by omega) ?_ | refine LJr_c (by assumption) ?_)), by first | omega | (simp only [zuI_1, zuI_2, zuJ_1, zuJ_2, zuJ_3, zuP_1, zuP_2, zuP_3, zuC_1, zuC_2, reduceIte, Nat.reduceEqDiff, false_and, and_false, true_and, and_true, and_self, or_true, true_or, or_false, false_or]; omega)⟩

set_option maxHeartbeats 4000000 in
set_option maxRecDepth 100000 in
theorem c_X9_numberY {l : Launch} {Γ : zΓ} {G : zH} {w : Nat} {b : Nat → Int} {n : Int} {A : aS} {lo hi : Int} (hX : zXs Γ) (hG : gT b n Γ w A G) (h0 : A 1 0 = 0) (hab : 0 ≤ lo ∧ lo ≤ hi ∧ hi ≤ 99999) : zMet l Γ yX9_number cX9_number 3 (some .boolean) 2 [zr 10 w, zi lo, zi hi] G (zpi (fun x G' => zsm [1007, 1008, 1009, 1010, 1004, 1005, 1011] G G' ∧ LJr G G' ∧ ((x = 0 ∨ x = 1) ∧ (x = 0 → FT w (sNum b n lo hi A) G') ∧ (x = 1 → tK b n A = 3 ∧ lo ≤ tV b n A ∧ tV b n A ≤ hi ∧ G'.1 1011 w 0 = tV b n A ∧ gT b n Γ w (sNext b n A) G' ∧ G'.1 1004 w 0 = G.1 1004 w 0 ∧ G'.1 1005 w 0 = G.1 1005 w 0)))) := by
  have gn := gT_num hG
  have g10 := hG.2.2.2.2.1
  refine zMet_of RX9 hX (by decide) rfl (Nat.le_of_ble_eq_true rfl) ?_
  intro p e s m args below meth c C hr hlk
  show Z p l e (zrm 2) s m args below meth c Γ 3 0 0 (MQ below (zQc Γ (zpi (fun x G' => zsm [1007, 1008, 1009, 1010, 1004, 1005, 1011] G G' ∧ LJr G G' ∧ ((x = 0 ∨ x = 1) ∧ (x = 0 → FT w (sNum b n lo hi A) G') ∧ (x = 1 → tK b n A = 3 ∧ lo ≤ tV b n A ∧ tV b n A ≤ hi ∧ G'.1 1011 w 0 = tV b n A ∧ gT b n Γ w (sNext b n A) G' ∧ G'.1 1004 w 0 = G.1 1004 w 0 ∧ G'.1 1005 w 0 = G.1 1005 w 0))))) args s 0 0 (zA Γ)) 0 [some (zr 10 w), some (zi lo), some (zi hi)] [] G
  refine zs_loc 1 rfl (fun ha1 hb1 => ?_)
  refine zs_loc 2 rfl (fun ha2 hb2 => ?_)
  refine zs_aload_n (pc := 0) C dX9_number_0 rfl ?_
  refine zs_geti (r := 1008) (pc := 1) C dX9_number_1 w_X9_196 f_10_8 rfl (r_1008 0) (fun v1 e1 l1 u1 => ?_)
  refine zs_iconst (pc := 4) C dX9_number_4 (by decide) ?_
  refine zs_icmp_eq (tgt := 14) (pc := 5) C dX9_number_5 (by decide) (fun h5 => ?_) (fun h5 => ?_)
  · skip
    refine zs_aload_n (pc := 14) C dX9_number_14 rfl ?_
    refine zs_geti (r := 1009) (pc := 15) C dX9_number_15 w_X9_207 f_10_9 rfl (r_1009 0) (fun v15 e15 l15 u15 => ?_)
    refine zs_iload_n (pc := 18) C dX9_number_18 rfl ?_
    refine zs_iload_n (pc := 19) C dX9_number_19 rfl ?_
    refine zSip3 (pc := 20) C dX9_number_20 s_X9_223 (c_X9_isIn hX ) (by decide) ⟨Nat.zero_le _, Nat.zero_le _⟩ (Nat.le_of_ble_eq_true rfl) (fun x20 l20 u20 hp20 => ?_)
    have hq20 := hp20
    refine zs_if_ne (tgt := 32) (pc := 23) C dX9_number_23 (by decide) (fun h23 => ?_) (fun h23 => ?_)
    · skip
      refine zs_aload_n (pc := 32) C dX9_number_32 rfl ?_
      refine zs_aload_n (pc := 33) C dX9_number_33 rfl ?_
      refine zs_geti (r := 1009) (pc := 34) C dX9_number_34 w_X9_207 f_10_9 rfl (r_1009 0) (fun v34 e34 l34 u34 => ?_)
      refine zs_puti (r := 1011) (pc := 37) C dX9_number_37 w_X9_227 f_10_11 rfl (r_1011 0) (by omega) ?_
      refine zs_aload_n (pc := 40) C dX9_number_40 rfl ?_
      refine zVv0 (pc := 41) C dX9_number_41 v_X9_230 (c_X9_tokenGY hX (by repeat (first | assumption | decide | apply gT_I | apply gT_sm))) (by decide) (by decide) ⟨Nat.zero_le _, Nat.zero_le _⟩ (Nat.le_of_ble_eq_true rfl) (fun G41 hp41 => ?_)
      obtain ⟨hz41, lo41, hq41⟩ := hp41
      try simp only [zuI_1, zuI_2, zuJ_1, zuJ_2, zuJ_3, zuP_1, zuP_2, zuP_3, zuC_1, zuC_2, reduceIte, Nat.reduceEqDiff, false_and, and_false, true_and, and_true, and_self, or_true, true_or, or_false, false_or] at hq41
      have t1011 := zsm_at hz41 1011 w 0 (by decide)
      have t1004 := zsm_at hz41 1004 w 0 (by decide)
      have t1005 := zsm_at hz41 1005 w 0 (by decide)
      try simp only [zuI_1, zuI_2, zuJ_1, zuJ_2, zuJ_3, zuP_1, zuP_2, zuP_3, zuC_1, zuC_2, reduceIte, Nat.reduceEqDiff, false_and, and_false, true_and, and_true, and_self, or_true, true_or, or_false, false_or] at t1011 t1004 t1005
      refine zs_iconst (pc := 44) C dX9_number_44 (by decide) ?_
      exact zs_zret (pc := 45) C hr hlk dX9_number_45 (by omega) ⟨by repeat (first | exact zsm_rf | assumption | refine zsm_C (by decide) ?_ | refine zsm_I (by decide) ?_ | refine zsm_J ?_ | refine zsm_c (by assumption) (by decide) ?_), (by with_reducible repeat (first | exact LJr_rf | assumption | refine LJr_I (h := 0) (by decide) (Nat.zero_le _) ?_ | refine LJr_I (h := 3) (by decide) (by omega) ?_ | refine LJr_I (h := 4) (by decide) (by omega) ?_ | refine LJr_I (h := 5) (by decide) (by omega) ?_ | refine LJr_I (h := 7) (by decide) (by omega) ?_ | refine LJr_I (h := 20) (by decide) (by omega) ?_ | refine LJr_I (h := 64) (by decide) (by omega) ?_ | refine LJr_c (by assumption) ?_)), ⟨by omega, fun q => by omega, fun _ => ⟨by omega, by omega, by omega, by omega, hq41, t1004, t1005⟩⟩⟩
    · skip
      refine zs_aload_n (pc := 26) C dX9_number_26 rfl ?_
      refine zs_iconst (pc := 27) C dX9_number_27 (by decide) ?_
      refine zVi1 (pc := 28) C dX9_number_28 v_X9_220 (c_X9_wrongY hX ) (by decide) (by decide) ⟨Nat.zero_le _, Nat.zero_le _⟩ (Nat.le_of_ble_eq_true rfl) (fun x28 G28 l28 u28 hp28 => ?_)
      obtain ⟨hz28, lo28, hq28⟩ := hp28
      exact zs_zret (pc := 31) C hr hlk dX9_number_31 (by omega) ⟨by repeat (first | exact zsm_rf | assumption | refine zsm_C (by decide) ?_ | refine zsm_I (by decide) ?_ | refine zsm_J ?_ | refine zsm_c (by assumption) (by decide) ?_), (by with_reducible repeat (first | exact LJr_rf | assumption | refine LJr_I (h := 0) (by decide) (Nat.zero_le _) ?_ | refine LJr_I (h := 3) (by decide) (by omega) ?_ | refine LJr_I (h := 4) (by decide) (by omega) ?_ | refine LJr_I (h := 5) (by decide) (by omega) ?_ | refine LJr_I (h := 7) (by decide) (by omega) ?_ | refine LJr_I (h := 20) (by decide) (by omega) ?_ | refine LJr_I (h := 64) (by decide) (by omega) ?_ | refine LJr_c (by assumption) ?_)), ⟨by omega, fun _ => by rw [sNum_2 (by omega) (by omega)]; exact FT_fail h0 (by decide) hq28.2.1 (hq28.2.2.trans g10), fun q => by omega⟩⟩
  · skip
    refine zs_aload_n (pc := 8) C dX9_number_8 rfl ?_
    refine zs_iconst (pc := 9) C dX9_number_9 (by decide) ?_
    refine zVi1 (pc := 10) C dX9_number_10 v_X9_220 (c_X9_wrongY hX ) (by decide) (by decide) ⟨Nat.zero_le _, Nat.zero_le _⟩ (Nat.le_of_ble_eq_true rfl) (fun x10 G10 l10 u10 hp10 => ?_)
    obtain ⟨hz10, lo10, hq10⟩ := hp10
    exact zs_zret (pc := 13) C hr hlk dX9_number_13 (by omega) ⟨by repeat (first | exact zsm_rf | assumption | refine zsm_C (by decide) ?_ | refine zsm_I (by decide) ?_ | refine zsm_J ?_ | refine zsm_c (by assumption) (by decide) ?_), (by with_reducible repeat (first | exact LJr_rf | assumption | refine LJr_I (h := 0) (by decide) (Nat.zero_le _) ?_ | refine LJr_I (h := 3) (by decide) (by omega) ?_ | refine LJr_I (h := 4) (by decide) (by omega) ?_ | refine LJr_I (h := 5) (by decide) (by omega) ?_ | refine LJr_I (h := 7) (by decide) (by omega) ?_ | refine LJr_I (h := 20) (by decide) (by omega) ?_ | refine LJr_I (h := 64) (by decide) (by omega) ?_ | refine LJr_c (by assumption) ?_)), ⟨by omega, fun _ => by rw [sNum_1 (by omega)]; exact FT_fail h0 (by decide) hq10.2.1 (hq10.2.2.trans g10), fun q => by omega⟩⟩

set_option maxHeartbeats 4000000 in
set_option maxRecDepth 100000 in
theorem c_X9_newName61Y {l : Launch} {Γ : zΓ} {G : zH} {w a : Nat} {b : Nat → Int} {n : Int} {A : aS} {q k : Int} (hX : zXs Γ) (hG : gT b n Γ w A G) (hn : 0 ≤ q ∧ 0 ≤ k ∧ q + k < 8) (hq9 : 4 ≤ q) : zMet l Γ yX9_newName cX9_newName 4 (some .boolean) 2 [zr 10 w, zr 61 a, zi q, zi k] G (zpi (fun x G' => zsm [2061, 1007, 1008, 1009, 1010, 1004, 1005] G G' ∧ LJr G G' ∧ ((x = 0 ∨ x = 1) ∧ (x = 0 → G'.1 1005 w 0 = tP b n A ∧ ((tK b n A ≠ 1 ∧ G'.1 1004 w 0 = 1) ∨ (tK b n A = 1 ∧ fndn (G.1 2061 a) q (tV b n A) k.toNat 0 ≠ -1 ∧ G'.1 1004 w 0 = 3))) ∧ (x = 1 → tK b n A = 1 ∧ fndn (G.1 2061 a) q (tV b n A) k.toNat 0 = -1 ∧ (∀ j : Nat, G'.1 2061 a j = if j = (q + k).toNat then tV b n A else G.1 2061 a j) ∧ gT b n Γ w (sNext b n A) G' ∧ G'.1 1004 w 0 = G.1 1004 w 0 ∧ G'.1 1005 w 0 = G.1 1005 w 0)))) := by
  have gn := gT_name hG
  have g10 := hG.2.2.2.2.1
  refine zMet_of RX9 hX (by decide) rfl (Nat.le_of_ble_eq_true rfl) ?_
  intro p e s m args below meth c C hr hlk
  show Z p l e (zrm 2) s m args below meth c Γ 4 0 0 (MQ below (zQc Γ (zpi (fun x G' => zsm [2061, 1007, 1008, 1009, 1010, 1004, 1005] G G' ∧ LJr G G' ∧ ((x = 0 ∨ x = 1) ∧ (x = 0 → G'.1 1005 w 0 = tP b n A ∧ ((tK b n A ≠ 1 ∧ G'.1 1004 w 0 = 1) ∨ (tK b n A = 1 ∧ fndn (G.1 2061 a) q (tV b n A) k.toNat 0 ≠ -1 ∧ G'.1 1004 w 0 = 3))) ∧ (x = 1 → tK b n A = 1 ∧ fndn (G.1 2061 a) q (tV b n A) k.toNat 0 = -1 ∧ (∀ j : Nat, G'.1 2061 a j = if j = (q + k).toNat then tV b n A else G.1 2061 a j) ∧ gT b n Γ w (sNext b n A) G' ∧ G'.1 1004 w 0 = G.1 1004 w 0 ∧ G'.1 1005 w 0 = G.1 1005 w 0))))) args s 0 0 (zA Γ)) 0 [some (zr 10 w), some (zr 61 a), some (zi q), some (zi k)] [] G
  refine zs_loc 2 rfl (fun ha2 hb2 => ?_)
  refine zs_loc 3 rfl (fun ha3 hb3 => ?_)
  refine zs_aload_n (pc := 0) C dX9_newName_0 rfl ?_
  refine zs_geti (r := 1008) (pc := 1) C dX9_newName_1 w_X9_196 f_10_8 rfl (r_1008 0) (fun v1 e1 l1 u1 => ?_)
  refine zs_iconst (pc := 4) C dX9_newName_4 (by decide) ?_
  refine zs_icmp_eq (tgt := 14) (pc := 5) C dX9_newName_5 (by decide) (fun h5 => ?_) (fun h5 => ?_)
  · skip
    refine zs_aload_n (pc := 14) C dX9_newName_14 rfl ?_
    refine zs_iload_n (pc := 15) C dX9_newName_15 rfl ?_
    refine zs_iload_n (pc := 16) C dX9_newName_16 rfl ?_
    refine zs_aload_n (pc := 17) C dX9_newName_17 rfl ?_
    refine zs_geti (r := 1009) (pc := 18) C dX9_newName_18 w_X9_207 f_10_9 rfl (r_1009 0) (fun v18 e18 l18 u18 => ?_)
    have h18 : v18 = tV b n A := by omega
    subst h18
    refine zSip4 (pc := 21) C dX9_newName_21 s_X9_280 (c_X9_findG hX a_61 (by decide) (by decide) (by omega)) (by decide) ⟨Nat.zero_le _, Nat.zero_le _⟩ (Nat.le_of_ble_eq_true rfl) (fun x21 l21 u21 hp21 => ?_)
    have hq21 := hp21
    have h21 : x21 = fndn (G.1 2061 a) q (tV b n A) k.toNat 0 := hq21.1
    have h21b := hq21.2
    refine zs_if_lt (tgt := 33) (pc := 24) C dX9_newName_24 (by decide) (fun h24 => ?_) (fun h24 => ?_)
    · skip
      refine zs_aload_n (pc := 33) C dX9_newName_33 rfl ?_
      refine zs_iload_n (pc := 34) C dX9_newName_34 rfl ?_
      refine zs_iload_n (pc := 35) C dX9_newName_35 rfl ?_
      first | refine zs_iadd (pc := 36) C dX9_newName_36 (by omega) ?_ | refine zs_iaddF (pc := 36) C dX9_newName_36 (fun z36 hz361 hz362 => ?_)
      refine zs_aload_n (pc := 37) C dX9_newName_37 rfl ?_
      refine zs_geti (r := 1009) (pc := 38) C dX9_newName_38 w_X9_207 f_10_9 rfl (r_1009 0) (fun v38 e38 l38 u38 => ?_)
      have h38 : v38 = tV b n A := by omega
      subst h38
      refine zs_iast (r := 2061) (pc := 41) C dX9_newName_41 a_61 (by decide) (by omega) rfl (r_2061 _) (by omega) ?_
      refine zs_aload_n (pc := 42) C dX9_newName_42 rfl ?_
      refine zVv0 (pc := 43) C dX9_newName_43 v_X9_230 (c_X9_tokenGY hX (by repeat (first | assumption | decide | apply gT_I | apply gT_sm))) (by decide) (by decide) ⟨Nat.zero_le _, Nat.zero_le _⟩ (Nat.le_of_ble_eq_true rfl) (fun G43 hp43 => ?_)
      obtain ⟨hz43, lo43, hq43⟩ := hp43
      try simp only [zuI_1, zuI_2, zuJ_1, zuJ_2, zuJ_3, zuP_1, zuP_2, zuP_3, zuC_1, zuC_2, reduceIte, Nat.reduceEqDiff, false_and, and_false, true_and, and_true, and_self, or_true, true_or, or_false, false_or] at hq43
      have t61 := hz43.1 2061 (by decide)
      have t1004 := zsm_at hz43 1004 w 0 (by decide)
      have t1005 := zsm_at hz43 1005 w 0 (by decide)
      try simp only [zuI_1, zuI_2, zuJ_1, zuJ_2, zuJ_3, zuP_1, zuP_2, zuP_3, zuC_1, zuC_2, reduceIte, Nat.reduceEqDiff, false_and, and_false, true_and, and_true, and_self, or_true, true_or, or_false, false_or] at t1004 t1005
      refine zs_iconst (pc := 46) C dX9_newName_46 (by decide) ?_
      exact zs_zret (pc := 47) C hr hlk dX9_newName_47 (by omega) ⟨by repeat (first | exact zsm_rf | assumption | refine zsm_C (by decide) ?_ | refine zsm_I (by decide) ?_ | refine zsm_J ?_ | refine zsm_c (by assumption) (by decide) ?_), (by with_reducible repeat (first | exact LJr_rf | assumption | refine LJr_I (h := 0) (by decide) (Nat.zero_le _) ?_ | refine LJr_I (h := 3) (by decide) (by omega) ?_ | refine LJr_I (h := 4) (by decide) (by omega) ?_ | refine LJr_I (h := 5) (by decide) (by omega) ?_ | refine LJr_I (h := 7) (by decide) (by omega) ?_ | refine LJr_I (h := 20) (by decide) (by omega) ?_ | refine LJr_I (h := 64) (by decide) (by omega) ?_ | refine LJr_c (by assumption) ?_)), ⟨by omega, fun q => by omega, fun _ => ⟨by omega, by omega, fun j => by rw [t61]; simp only [zuI_1, zuI_2, zuJ_1, zuJ_2, zuJ_3, zuP_1, zuP_2, zuP_3, zuC_1, zuC_2, reduceIte, Nat.reduceEqDiff, false_and, and_false, true_and, and_true, and_self, or_true, true_or, or_false, false_or], hq43, t1004, t1005⟩⟩⟩
    · skip
      refine zs_aload_n (pc := 27) C dX9_newName_27 rfl ?_
      refine zs_iconst (pc := 28) C dX9_newName_28 (by decide) ?_
      refine zVi1 (pc := 29) C dX9_newName_29 v_X9_220 (c_X9_wrongY hX ) (by decide) (by decide) ⟨Nat.zero_le _, Nat.zero_le _⟩ (Nat.le_of_ble_eq_true rfl) (fun x29 G29 l29 u29 hp29 => ?_)
      obtain ⟨hz29, lo29, hq29⟩ := hp29
      exact zs_zret (pc := 32) C hr hlk dX9_newName_32 (by omega) ⟨by repeat (first | exact zsm_rf | assumption | refine zsm_C (by decide) ?_ | refine zsm_I (by decide) ?_ | refine zsm_J ?_ | refine zsm_c (by assumption) (by decide) ?_), (by with_reducible repeat (first | exact LJr_rf | assumption | refine LJr_I (h := 0) (by decide) (Nat.zero_le _) ?_ | refine LJr_I (h := 3) (by decide) (by omega) ?_ | refine LJr_I (h := 4) (by decide) (by omega) ?_ | refine LJr_I (h := 5) (by decide) (by omega) ?_ | refine LJr_I (h := 7) (by decide) (by omega) ?_ | refine LJr_I (h := 20) (by decide) (by omega) ?_ | refine LJr_I (h := 64) (by decide) (by omega) ?_ | refine LJr_c (by assumption) ?_)), ⟨by omega, fun _ => ⟨hq29.2.2.trans g10, Or.inr ⟨by omega, by omega, hq29.2.1⟩⟩, fun q => by omega⟩⟩
  · skip
    refine zs_aload_n (pc := 8) C dX9_newName_8 rfl ?_
    refine zs_iconst (pc := 9) C dX9_newName_9 (by decide) ?_
    refine zVi1 (pc := 10) C dX9_newName_10 v_X9_220 (c_X9_wrongY hX ) (by decide) (by decide) ⟨Nat.zero_le _, Nat.zero_le _⟩ (Nat.le_of_ble_eq_true rfl) (fun x10 G10 l10 u10 hp10 => ?_)
    obtain ⟨hz10, lo10, hq10⟩ := hp10
    exact zs_zret (pc := 13) C hr hlk dX9_newName_13 (by omega) ⟨by repeat (first | exact zsm_rf | assumption | refine zsm_C (by decide) ?_ | refine zsm_I (by decide) ?_ | refine zsm_J ?_ | refine zsm_c (by assumption) (by decide) ?_), (by with_reducible repeat (first | exact LJr_rf | assumption | refine LJr_I (h := 0) (by decide) (Nat.zero_le _) ?_ | refine LJr_I (h := 3) (by decide) (by omega) ?_ | refine LJr_I (h := 4) (by decide) (by omega) ?_ | refine LJr_I (h := 5) (by decide) (by omega) ?_ | refine LJr_I (h := 7) (by decide) (by omega) ?_ | refine LJr_I (h := 20) (by decide) (by omega) ?_ | refine LJr_I (h := 64) (by decide) (by omega) ?_ | refine LJr_c (by assumption) ?_)), ⟨by omega, fun _ => ⟨hq10.2.2.trans g10, Or.inl ⟨by omega, hq10.2.1⟩⟩, fun q => by omega⟩⟩

set_option maxHeartbeats 4000000 in
set_option maxRecDepth 100000 in
theorem c_X9_newName63Y {l : Launch} {Γ : zΓ} {G : zH} {w a : Nat} {b : Nat → Int} {n : Int} {A : aS} {q k : Int} (hX : zXs Γ) (hG : gT b n Γ w A G) (hn : 0 ≤ q ∧ 0 ≤ k ∧ q + k < 10) (hq9 : 5 ≤ q) : zMet l Γ yX9_newName cX9_newName 4 (some .boolean) 2 [zr 10 w, zr 63 a, zi q, zi k] G (zpi (fun x G' => zsm [2063, 1007, 1008, 1009, 1010, 1004, 1005] G G' ∧ LJr G G' ∧ ((x = 0 ∨ x = 1) ∧ (x = 0 → G'.1 1005 w 0 = tP b n A ∧ ((tK b n A ≠ 1 ∧ G'.1 1004 w 0 = 1) ∨ (tK b n A = 1 ∧ fndn (G.1 2063 a) q (tV b n A) k.toNat 0 ≠ -1 ∧ G'.1 1004 w 0 = 3))) ∧ (x = 1 → tK b n A = 1 ∧ fndn (G.1 2063 a) q (tV b n A) k.toNat 0 = -1 ∧ (∀ j : Nat, G'.1 2063 a j = if j = (q + k).toNat then tV b n A else G.1 2063 a j) ∧ gT b n Γ w (sNext b n A) G' ∧ G'.1 1004 w 0 = G.1 1004 w 0 ∧ G'.1 1005 w 0 = G.1 1005 w 0)))) := by
  have gn := gT_name hG
  have g10 := hG.2.2.2.2.1
  refine zMet_of RX9 hX (by decide) rfl (Nat.le_of_ble_eq_true rfl) ?_
  intro p e s m args below meth c C hr hlk
  show Z p l e (zrm 2) s m args below meth c Γ 4 0 0 (MQ below (zQc Γ (zpi (fun x G' => zsm [2063, 1007, 1008, 1009, 1010, 1004, 1005] G G' ∧ LJr G G' ∧ ((x = 0 ∨ x = 1) ∧ (x = 0 → G'.1 1005 w 0 = tP b n A ∧ ((tK b n A ≠ 1 ∧ G'.1 1004 w 0 = 1) ∨ (tK b n A = 1 ∧ fndn (G.1 2063 a) q (tV b n A) k.toNat 0 ≠ -1 ∧ G'.1 1004 w 0 = 3))) ∧ (x = 1 → tK b n A = 1 ∧ fndn (G.1 2063 a) q (tV b n A) k.toNat 0 = -1 ∧ (∀ j : Nat, G'.1 2063 a j = if j = (q + k).toNat then tV b n A else G.1 2063 a j) ∧ gT b n Γ w (sNext b n A) G' ∧ G'.1 1004 w 0 = G.1 1004 w 0 ∧ G'.1 1005 w 0 = G.1 1005 w 0))))) args s 0 0 (zA Γ)) 0 [some (zr 10 w), some (zr 63 a), some (zi q), some (zi k)] [] G
  refine zs_loc 2 rfl (fun ha2 hb2 => ?_)
  refine zs_loc 3 rfl (fun ha3 hb3 => ?_)
  refine zs_aload_n (pc := 0) C dX9_newName_0 rfl ?_
  refine zs_geti (r := 1008) (pc := 1) C dX9_newName_1 w_X9_196 f_10_8 rfl (r_1008 0) (fun v1 e1 l1 u1 => ?_)
  refine zs_iconst (pc := 4) C dX9_newName_4 (by decide) ?_
  refine zs_icmp_eq (tgt := 14) (pc := 5) C dX9_newName_5 (by decide) (fun h5 => ?_) (fun h5 => ?_)
  · skip
    refine zs_aload_n (pc := 14) C dX9_newName_14 rfl ?_
    refine zs_iload_n (pc := 15) C dX9_newName_15 rfl ?_
    refine zs_iload_n (pc := 16) C dX9_newName_16 rfl ?_
    refine zs_aload_n (pc := 17) C dX9_newName_17 rfl ?_
    refine zs_geti (r := 1009) (pc := 18) C dX9_newName_18 w_X9_207 f_10_9 rfl (r_1009 0) (fun v18 e18 l18 u18 => ?_)
    have h18 : v18 = tV b n A := by omega
    subst h18
    refine zSip4 (pc := 21) C dX9_newName_21 s_X9_280 (c_X9_findG hX a_63 (by decide) (by decide) (by omega)) (by decide) ⟨Nat.zero_le _, Nat.zero_le _⟩ (Nat.le_of_ble_eq_true rfl) (fun x21 l21 u21 hp21 => ?_)
    have hq21 := hp21
    have h21 : x21 = fndn (G.1 2063 a) q (tV b n A) k.toNat 0 := hq21.1
    have h21b := hq21.2
    refine zs_if_lt (tgt := 33) (pc := 24) C dX9_newName_24 (by decide) (fun h24 => ?_) (fun h24 => ?_)
    · skip
      refine zs_aload_n (pc := 33) C dX9_newName_33 rfl ?_
      refine zs_iload_n (pc := 34) C dX9_newName_34 rfl ?_
      refine zs_iload_n (pc := 35) C dX9_newName_35 rfl ?_
      first | refine zs_iadd (pc := 36) C dX9_newName_36 (by omega) ?_ | refine zs_iaddF (pc := 36) C dX9_newName_36 (fun z36 hz361 hz362 => ?_)
      refine zs_aload_n (pc := 37) C dX9_newName_37 rfl ?_
      refine zs_geti (r := 1009) (pc := 38) C dX9_newName_38 w_X9_207 f_10_9 rfl (r_1009 0) (fun v38 e38 l38 u38 => ?_)
      have h38 : v38 = tV b n A := by omega
      subst h38
      refine zs_iast (r := 2063) (pc := 41) C dX9_newName_41 a_63 (by decide) (by omega) rfl (r_2063 _) (by omega) ?_
      refine zs_aload_n (pc := 42) C dX9_newName_42 rfl ?_
      refine zVv0 (pc := 43) C dX9_newName_43 v_X9_230 (c_X9_tokenGY hX (by repeat (first | assumption | decide | apply gT_I | apply gT_sm))) (by decide) (by decide) ⟨Nat.zero_le _, Nat.zero_le _⟩ (Nat.le_of_ble_eq_true rfl) (fun G43 hp43 => ?_)
      obtain ⟨hz43, lo43, hq43⟩ := hp43
      try simp only [zuI_1, zuI_2, zuJ_1, zuJ_2, zuJ_3, zuP_1, zuP_2, zuP_3, zuC_1, zuC_2, reduceIte, Nat.reduceEqDiff, false_and, and_false, true_and, and_true, and_self, or_true, true_or, or_false, false_or] at hq43
      have t63 := hz43.1 2063 (by decide)
      have t1004 := zsm_at hz43 1004 w 0 (by decide)
      have t1005 := zsm_at hz43 1005 w 0 (by decide)
      try simp only [zuI_1, zuI_2, zuJ_1, zuJ_2, zuJ_3, zuP_1, zuP_2, zuP_3, zuC_1, zuC_2, reduceIte, Nat.reduceEqDiff, false_and, and_false, true_and, and_true, and_self, or_true, true_or, or_false, false_or] at t1004 t1005
      refine zs_iconst (pc := 46) C dX9_newName_46 (by decide) ?_
      exact zs_zret (pc := 47) C hr hlk dX9_newName_47 (by omega) ⟨by repeat (first | exact zsm_rf | assumption | refine zsm_C (by decide) ?_ | refine zsm_I (by decide) ?_ | refine zsm_J ?_ | refine zsm_c (by assumption) (by decide) ?_), (by with_reducible repeat (first | exact LJr_rf | assumption | refine LJr_I (h := 0) (by decide) (Nat.zero_le _) ?_ | refine LJr_I (h := 3) (by decide) (by omega) ?_ | refine LJr_I (h := 4) (by decide) (by omega) ?_ | refine LJr_I (h := 5) (by decide) (by omega) ?_ | refine LJr_I (h := 7) (by decide) (by omega) ?_ | refine LJr_I (h := 20) (by decide) (by omega) ?_ | refine LJr_I (h := 64) (by decide) (by omega) ?_ | refine LJr_c (by assumption) ?_)), ⟨by omega, fun q => by omega, fun _ => ⟨by omega, by omega, fun j => by rw [t63]; simp only [zuI_1, zuI_2, zuJ_1, zuJ_2, zuJ_3, zuP_1, zuP_2, zuP_3, zuC_1, zuC_2, reduceIte, Nat.reduceEqDiff, false_and, and_false, true_and, and_true, and_self, or_true, true_or, or_false, false_or], hq43, t1004, t1005⟩⟩⟩
    · skip
      refine zs_aload_n (pc := 27) C dX9_newName_27 rfl ?_
      refine zs_iconst (pc := 28) C dX9_newName_28 (by decide) ?_
      refine zVi1 (pc := 29) C dX9_newName_29 v_X9_220 (c_X9_wrongY hX ) (by decide) (by decide) ⟨Nat.zero_le _, Nat.zero_le _⟩ (Nat.le_of_ble_eq_true rfl) (fun x29 G29 l29 u29 hp29 => ?_)
      obtain ⟨hz29, lo29, hq29⟩ := hp29
      exact zs_zret (pc := 32) C hr hlk dX9_newName_32 (by omega) ⟨by repeat (first | exact zsm_rf | assumption | refine zsm_C (by decide) ?_ | refine zsm_I (by decide) ?_ | refine zsm_J ?_ | refine zsm_c (by assumption) (by decide) ?_), (by with_reducible repeat (first | exact LJr_rf | assumption | refine LJr_I (h := 0) (by decide) (Nat.zero_le _) ?_ | refine LJr_I (h := 3) (by decide) (by omega) ?_ | refine LJr_I (h := 4) (by decide) (by omega) ?_ | refine LJr_I (h := 5) (by decide) (by omega) ?_ | refine LJr_I (h := 7) (by decide) (by omega) ?_ | refine LJr_I (h := 20) (by decide) (by omega) ?_ | refine LJr_I (h := 64) (by decide) (by omega) ?_ | refine LJr_c (by assumption) ?_)), ⟨by omega, fun _ => ⟨hq29.2.2.trans g10, Or.inr ⟨by omega, by omega, hq29.2.1⟩⟩, fun q => by omega⟩⟩
  · skip
    refine zs_aload_n (pc := 8) C dX9_newName_8 rfl ?_
    refine zs_iconst (pc := 9) C dX9_newName_9 (by decide) ?_
    refine zVi1 (pc := 10) C dX9_newName_10 v_X9_220 (c_X9_wrongY hX ) (by decide) (by decide) ⟨Nat.zero_le _, Nat.zero_le _⟩ (Nat.le_of_ble_eq_true rfl) (fun x10 G10 l10 u10 hp10 => ?_)
    obtain ⟨hz10, lo10, hq10⟩ := hp10
    exact zs_zret (pc := 13) C hr hlk dX9_newName_13 (by omega) ⟨by repeat (first | exact zsm_rf | assumption | refine zsm_C (by decide) ?_ | refine zsm_I (by decide) ?_ | refine zsm_J ?_ | refine zsm_c (by assumption) (by decide) ?_), (by with_reducible repeat (first | exact LJr_rf | assumption | refine LJr_I (h := 0) (by decide) (Nat.zero_le _) ?_ | refine LJr_I (h := 3) (by decide) (by omega) ?_ | refine LJr_I (h := 4) (by decide) (by omega) ?_ | refine LJr_I (h := 5) (by decide) (by omega) ?_ | refine LJr_I (h := 7) (by decide) (by omega) ?_ | refine LJr_I (h := 20) (by decide) (by omega) ?_ | refine LJr_I (h := 64) (by decide) (by omega) ?_ | refine LJr_c (by assumption) ?_)), ⟨by omega, fun _ => ⟨hq10.2.2.trans g10, Or.inl ⟨by omega, hq10.2.1⟩⟩, fun q => by omega⟩⟩

set_option maxHeartbeats 4000000 in
set_option maxRecDepth 100000 in
theorem c_X9_newName66Y {l : Launch} {Γ : zΓ} {G : zH} {w a : Nat} {b : Nat → Int} {n : Int} {A : aS} {q k : Int} (hX : zXs Γ) (hG : gT b n Γ w A G) (hn : 0 ≤ q ∧ 0 ≤ k ∧ q + k < 10) (hq9 : 5 ≤ q) : zMet l Γ yX9_newName cX9_newName 4 (some .boolean) 2 [zr 10 w, zr 66 a, zi q, zi k] G (zpi (fun x G' => zsm [2066, 1007, 1008, 1009, 1010, 1004, 1005] G G' ∧ LJr G G' ∧ ((x = 0 ∨ x = 1) ∧ (x = 0 → G'.1 1005 w 0 = tP b n A ∧ ((tK b n A ≠ 1 ∧ G'.1 1004 w 0 = 1) ∨ (tK b n A = 1 ∧ fndn (G.1 2066 a) q (tV b n A) k.toNat 0 ≠ -1 ∧ G'.1 1004 w 0 = 3))) ∧ (x = 1 → tK b n A = 1 ∧ fndn (G.1 2066 a) q (tV b n A) k.toNat 0 = -1 ∧ (∀ j : Nat, G'.1 2066 a j = if j = (q + k).toNat then tV b n A else G.1 2066 a j) ∧ gT b n Γ w (sNext b n A) G' ∧ G'.1 1004 w 0 = G.1 1004 w 0 ∧ G'.1 1005 w 0 = G.1 1005 w 0)))) := by
  have gn := gT_name hG
  have g10 := hG.2.2.2.2.1
  refine zMet_of RX9 hX (by decide) rfl (Nat.le_of_ble_eq_true rfl) ?_
  intro p e s m args below meth c C hr hlk
  show Z p l e (zrm 2) s m args below meth c Γ 4 0 0 (MQ below (zQc Γ (zpi (fun x G' => zsm [2066, 1007, 1008, 1009, 1010, 1004, 1005] G G' ∧ LJr G G' ∧ ((x = 0 ∨ x = 1) ∧ (x = 0 → G'.1 1005 w 0 = tP b n A ∧ ((tK b n A ≠ 1 ∧ G'.1 1004 w 0 = 1) ∨ (tK b n A = 1 ∧ fndn (G.1 2066 a) q (tV b n A) k.toNat 0 ≠ -1 ∧ G'.1 1004 w 0 = 3))) ∧ (x = 1 → tK b n A = 1 ∧ fndn (G.1 2066 a) q (tV b n A) k.toNat 0 = -1 ∧ (∀ j : Nat, G'.1 2066 a j = if j = (q + k).toNat then tV b n A else G.1 2066 a j) ∧ gT b n Γ w (sNext b n A) G' ∧ G'.1 1004 w 0 = G.1 1004 w 0 ∧ G'.1 1005 w 0 = G.1 1005 w 0))))) args s 0 0 (zA Γ)) 0 [some (zr 10 w), some (zr 66 a), some (zi q), some (zi k)] [] G
  refine zs_loc 2 rfl (fun ha2 hb2 => ?_)
  refine zs_loc 3 rfl (fun ha3 hb3 => ?_)
  refine zs_aload_n (pc := 0) C dX9_newName_0 rfl ?_
  refine zs_geti (r := 1008) (pc := 1) C dX9_newName_1 w_X9_196 f_10_8 rfl (r_1008 0) (fun v1 e1 l1 u1 => ?_)
  refine zs_iconst (pc := 4) C dX9_newName_4 (by decide) ?_
  refine zs_icmp_eq (tgt := 14) (pc := 5) C dX9_newName_5 (by decide) (fun h5 => ?_) (fun h5 => ?_)
  · skip
    refine zs_aload_n (pc := 14) C dX9_newName_14 rfl ?_
    refine zs_iload_n (pc := 15) C dX9_newName_15 rfl ?_
    refine zs_iload_n (pc := 16) C dX9_newName_16 rfl ?_
    refine zs_aload_n (pc := 17) C dX9_newName_17 rfl ?_
    refine zs_geti (r := 1009) (pc := 18) C dX9_newName_18 w_X9_207 f_10_9 rfl (r_1009 0) (fun v18 e18 l18 u18 => ?_)
    have h18 : v18 = tV b n A := by omega
    subst h18
    refine zSip4 (pc := 21) C dX9_newName_21 s_X9_280 (c_X9_findG hX a_66 (by decide) (by decide) (by omega)) (by decide) ⟨Nat.zero_le _, Nat.zero_le _⟩ (Nat.le_of_ble_eq_true rfl) (fun x21 l21 u21 hp21 => ?_)
    have hq21 := hp21
    have h21 : x21 = fndn (G.1 2066 a) q (tV b n A) k.toNat 0 := hq21.1
    have h21b := hq21.2
    refine zs_if_lt (tgt := 33) (pc := 24) C dX9_newName_24 (by decide) (fun h24 => ?_) (fun h24 => ?_)
    · skip
      refine zs_aload_n (pc := 33) C dX9_newName_33 rfl ?_
      refine zs_iload_n (pc := 34) C dX9_newName_34 rfl ?_
      refine zs_iload_n (pc := 35) C dX9_newName_35 rfl ?_
      first | refine zs_iadd (pc := 36) C dX9_newName_36 (by omega) ?_ | refine zs_iaddF (pc := 36) C dX9_newName_36 (fun z36 hz361 hz362 => ?_)
      refine zs_aload_n (pc := 37) C dX9_newName_37 rfl ?_
      refine zs_geti (r := 1009) (pc := 38) C dX9_newName_38 w_X9_207 f_10_9 rfl (r_1009 0) (fun v38 e38 l38 u38 => ?_)
      have h38 : v38 = tV b n A := by omega
      subst h38
      refine zs_iast (r := 2066) (pc := 41) C dX9_newName_41 a_66 (by decide) (by omega) rfl (r_2066 _) (by omega) ?_
      refine zs_aload_n (pc := 42) C dX9_newName_42 rfl ?_
      refine zVv0 (pc := 43) C dX9_newName_43 v_X9_230 (c_X9_tokenGY hX (by repeat (first | assumption | decide | apply gT_I | apply gT_sm))) (by decide) (by decide) ⟨Nat.zero_le _, Nat.zero_le _⟩ (Nat.le_of_ble_eq_true rfl) (fun G43 hp43 => ?_)
      obtain ⟨hz43, lo43, hq43⟩ := hp43
      try simp only [zuI_1, zuI_2, zuJ_1, zuJ_2, zuJ_3, zuP_1, zuP_2, zuP_3, zuC_1, zuC_2, reduceIte, Nat.reduceEqDiff, false_and, and_false, true_and, and_true, and_self, or_true, true_or, or_false, false_or] at hq43
      have t66 := hz43.1 2066 (by decide)
      have t1004 := zsm_at hz43 1004 w 0 (by decide)
      have t1005 := zsm_at hz43 1005 w 0 (by decide)
      try simp only [zuI_1, zuI_2, zuJ_1, zuJ_2, zuJ_3, zuP_1, zuP_2, zuP_3, zuC_1, zuC_2, reduceIte, Nat.reduceEqDiff, false_and, and_false, true_and, and_true, and_self, or_true, true_or, or_false, false_or] at t1004 t1005
      refine zs_iconst (pc := 46) C dX9_newName_46 (by decide) ?_
      exact zs_zret (pc := 47) C hr hlk dX9_newName_47 (by omega) ⟨by repeat (first | exact zsm_rf | assumption | refine zsm_C (by decide) ?_ | refine zsm_I (by decide) ?_ | refine zsm_J ?_ | refine zsm_c (by assumption) (by decide) ?_), (by with_reducible repeat (first | exact LJr_rf | assumption | refine LJr_I (h := 0) (by decide) (Nat.zero_le _) ?_ | refine LJr_I (h := 3) (by decide) (by omega) ?_ | refine LJr_I (h := 4) (by decide) (by omega) ?_ | refine LJr_I (h := 5) (by decide) (by omega) ?_ | refine LJr_I (h := 7) (by decide) (by omega) ?_ | refine LJr_I (h := 20) (by decide) (by omega) ?_ | refine LJr_I (h := 64) (by decide) (by omega) ?_ | refine LJr_c (by assumption) ?_)), ⟨by omega, fun q => by omega, fun _ => ⟨by omega, by omega, fun j => by rw [t66]; simp only [zuI_1, zuI_2, zuJ_1, zuJ_2, zuJ_3, zuP_1, zuP_2, zuP_3, zuC_1, zuC_2, reduceIte, Nat.reduceEqDiff, false_and, and_false, true_and, and_true, and_self, or_true, true_or, or_false, false_or], hq43, t1004, t1005⟩⟩⟩
    · skip
      refine zs_aload_n (pc := 27) C dX9_newName_27 rfl ?_
      refine zs_iconst (pc := 28) C dX9_newName_28 (by decide) ?_
      refine zVi1 (pc := 29) C dX9_newName_29 v_X9_220 (c_X9_wrongY hX ) (by decide) (by decide) ⟨Nat.zero_le _, Nat.zero_le _⟩ (Nat.le_of_ble_eq_true rfl) (fun x29 G29 l29 u29 hp29 => ?_)
      obtain ⟨hz29, lo29, hq29⟩ := hp29
      exact zs_zret (pc := 32) C hr hlk dX9_newName_32 (by omega) ⟨by repeat (first | exact zsm_rf | assumption | refine zsm_C (by decide) ?_ | refine zsm_I (by decide) ?_ | refine zsm_J ?_ | refine zsm_c (by assumption) (by decide) ?_), (by with_reducible repeat (first | exact LJr_rf | assumption | refine LJr_I (h := 0) (by decide) (Nat.zero_le _) ?_ | refine LJr_I (h := 3) (by decide) (by omega) ?_ | refine LJr_I (h := 4) (by decide) (by omega) ?_ | refine LJr_I (h := 5) (by decide) (by omega) ?_ | refine LJr_I (h := 7) (by decide) (by omega) ?_ | refine LJr_I (h := 20) (by decide) (by omega) ?_ | refine LJr_I (h := 64) (by decide) (by omega) ?_ | refine LJr_c (by assumption) ?_)), ⟨by omega, fun _ => ⟨hq29.2.2.trans g10, Or.inr ⟨by omega, by omega, hq29.2.1⟩⟩, fun q => by omega⟩⟩
  · skip
    refine zs_aload_n (pc := 8) C dX9_newName_8 rfl ?_
    refine zs_iconst (pc := 9) C dX9_newName_9 (by decide) ?_
    refine zVi1 (pc := 10) C dX9_newName_10 v_X9_220 (c_X9_wrongY hX ) (by decide) (by decide) ⟨Nat.zero_le _, Nat.zero_le _⟩ (Nat.le_of_ble_eq_true rfl) (fun x10 G10 l10 u10 hp10 => ?_)
    obtain ⟨hz10, lo10, hq10⟩ := hp10
    exact zs_zret (pc := 13) C hr hlk dX9_newName_13 (by omega) ⟨by repeat (first | exact zsm_rf | assumption | refine zsm_C (by decide) ?_ | refine zsm_I (by decide) ?_ | refine zsm_J ?_ | refine zsm_c (by assumption) (by decide) ?_), (by with_reducible repeat (first | exact LJr_rf | assumption | refine LJr_I (h := 0) (by decide) (Nat.zero_le _) ?_ | refine LJr_I (h := 3) (by decide) (by omega) ?_ | refine LJr_I (h := 4) (by decide) (by omega) ?_ | refine LJr_I (h := 5) (by decide) (by omega) ?_ | refine LJr_I (h := 7) (by decide) (by omega) ?_ | refine LJr_I (h := 20) (by decide) (by omega) ?_ | refine LJr_I (h := 64) (by decide) (by omega) ?_ | refine LJr_c (by assumption) ?_)), ⟨by omega, fun _ => ⟨hq10.2.2.trans g10, Or.inl ⟨by omega, hq10.2.1⟩⟩, fun q => by omega⟩⟩

set_option maxHeartbeats 4000000 in
set_option maxRecDepth 100000 in
theorem c_X9_newName70Y {l : Launch} {Γ : zΓ} {G : zH} {w a : Nat} {b : Nat → Int} {n : Int} {A : aS} {q k : Int} (hX : zXs Γ) (hG : gT b n Γ w A G) (hn : 0 ≤ q ∧ 0 ≤ k ∧ q + k < 6) (hq9 : 3 ≤ q) : zMet l Γ yX9_newName cX9_newName 4 (some .boolean) 2 [zr 10 w, zr 70 a, zi q, zi k] G (zpi (fun x G' => zsm [2070, 1007, 1008, 1009, 1010, 1004, 1005] G G' ∧ LJr G G' ∧ ((x = 0 ∨ x = 1) ∧ (x = 0 → G'.1 1005 w 0 = tP b n A ∧ ((tK b n A ≠ 1 ∧ G'.1 1004 w 0 = 1) ∨ (tK b n A = 1 ∧ fndn (G.1 2070 a) q (tV b n A) k.toNat 0 ≠ -1 ∧ G'.1 1004 w 0 = 3))) ∧ (x = 1 → tK b n A = 1 ∧ fndn (G.1 2070 a) q (tV b n A) k.toNat 0 = -1 ∧ (∀ j : Nat, G'.1 2070 a j = if j = (q + k).toNat then tV b n A else G.1 2070 a j) ∧ gT b n Γ w (sNext b n A) G' ∧ G'.1 1004 w 0 = G.1 1004 w 0 ∧ G'.1 1005 w 0 = G.1 1005 w 0)))) := by
  have gn := gT_name hG
  have g10 := hG.2.2.2.2.1
  refine zMet_of RX9 hX (by decide) rfl (Nat.le_of_ble_eq_true rfl) ?_
  intro p e s m args below meth c C hr hlk
  show Z p l e (zrm 2) s m args below meth c Γ 4 0 0 (MQ below (zQc Γ (zpi (fun x G' => zsm [2070, 1007, 1008, 1009, 1010, 1004, 1005] G G' ∧ LJr G G' ∧ ((x = 0 ∨ x = 1) ∧ (x = 0 → G'.1 1005 w 0 = tP b n A ∧ ((tK b n A ≠ 1 ∧ G'.1 1004 w 0 = 1) ∨ (tK b n A = 1 ∧ fndn (G.1 2070 a) q (tV b n A) k.toNat 0 ≠ -1 ∧ G'.1 1004 w 0 = 3))) ∧ (x = 1 → tK b n A = 1 ∧ fndn (G.1 2070 a) q (tV b n A) k.toNat 0 = -1 ∧ (∀ j : Nat, G'.1 2070 a j = if j = (q + k).toNat then tV b n A else G.1 2070 a j) ∧ gT b n Γ w (sNext b n A) G' ∧ G'.1 1004 w 0 = G.1 1004 w 0 ∧ G'.1 1005 w 0 = G.1 1005 w 0))))) args s 0 0 (zA Γ)) 0 [some (zr 10 w), some (zr 70 a), some (zi q), some (zi k)] [] G
  refine zs_loc 2 rfl (fun ha2 hb2 => ?_)
  refine zs_loc 3 rfl (fun ha3 hb3 => ?_)
  refine zs_aload_n (pc := 0) C dX9_newName_0 rfl ?_
  refine zs_geti (r := 1008) (pc := 1) C dX9_newName_1 w_X9_196 f_10_8 rfl (r_1008 0) (fun v1 e1 l1 u1 => ?_)
  refine zs_iconst (pc := 4) C dX9_newName_4 (by decide) ?_
  refine zs_icmp_eq (tgt := 14) (pc := 5) C dX9_newName_5 (by decide) (fun h5 => ?_) (fun h5 => ?_)
  · skip
    refine zs_aload_n (pc := 14) C dX9_newName_14 rfl ?_
    refine zs_iload_n (pc := 15) C dX9_newName_15 rfl ?_
    refine zs_iload_n (pc := 16) C dX9_newName_16 rfl ?_
    refine zs_aload_n (pc := 17) C dX9_newName_17 rfl ?_
    refine zs_geti (r := 1009) (pc := 18) C dX9_newName_18 w_X9_207 f_10_9 rfl (r_1009 0) (fun v18 e18 l18 u18 => ?_)
    have h18 : v18 = tV b n A := by omega
    subst h18
    refine zSip4 (pc := 21) C dX9_newName_21 s_X9_280 (c_X9_findG hX a_70 (by decide) (by decide) (by omega)) (by decide) ⟨Nat.zero_le _, Nat.zero_le _⟩ (Nat.le_of_ble_eq_true rfl) (fun x21 l21 u21 hp21 => ?_)
    have hq21 := hp21
    have h21 : x21 = fndn (G.1 2070 a) q (tV b n A) k.toNat 0 := hq21.1
    have h21b := hq21.2
    refine zs_if_lt (tgt := 33) (pc := 24) C dX9_newName_24 (by decide) (fun h24 => ?_) (fun h24 => ?_)
    · skip
      refine zs_aload_n (pc := 33) C dX9_newName_33 rfl ?_
      refine zs_iload_n (pc := 34) C dX9_newName_34 rfl ?_
      refine zs_iload_n (pc := 35) C dX9_newName_35 rfl ?_
      first | refine zs_iadd (pc := 36) C dX9_newName_36 (by omega) ?_ | refine zs_iaddF (pc := 36) C dX9_newName_36 (fun z36 hz361 hz362 => ?_)
      refine zs_aload_n (pc := 37) C dX9_newName_37 rfl ?_
      refine zs_geti (r := 1009) (pc := 38) C dX9_newName_38 w_X9_207 f_10_9 rfl (r_1009 0) (fun v38 e38 l38 u38 => ?_)
      have h38 : v38 = tV b n A := by omega
      subst h38
      refine zs_iast (r := 2070) (pc := 41) C dX9_newName_41 a_70 (by decide) (by omega) rfl (r_2070 _) (by omega) ?_
      refine zs_aload_n (pc := 42) C dX9_newName_42 rfl ?_
      refine zVv0 (pc := 43) C dX9_newName_43 v_X9_230 (c_X9_tokenGY hX (by repeat (first | assumption | decide | apply gT_I | apply gT_sm))) (by decide) (by decide) ⟨Nat.zero_le _, Nat.zero_le _⟩ (Nat.le_of_ble_eq_true rfl) (fun G43 hp43 => ?_)
      obtain ⟨hz43, lo43, hq43⟩ := hp43
      try simp only [zuI_1, zuI_2, zuJ_1, zuJ_2, zuJ_3, zuP_1, zuP_2, zuP_3, zuC_1, zuC_2, reduceIte, Nat.reduceEqDiff, false_and, and_false, true_and, and_true, and_self, or_true, true_or, or_false, false_or] at hq43
      have t70 := hz43.1 2070 (by decide)
      have t1004 := zsm_at hz43 1004 w 0 (by decide)
      have t1005 := zsm_at hz43 1005 w 0 (by decide)
      try simp only [zuI_1, zuI_2, zuJ_1, zuJ_2, zuJ_3, zuP_1, zuP_2, zuP_3, zuC_1, zuC_2, reduceIte, Nat.reduceEqDiff, false_and, and_false, true_and, and_true, and_self, or_true, true_or, or_false, false_or] at t1004 t1005
      refine zs_iconst (pc := 46) C dX9_newName_46 (by decide) ?_
      exact zs_zret (pc := 47) C hr hlk dX9_newName_47 (by omega) ⟨by repeat (first | exact zsm_rf | assumption | refine zsm_C (by decide) ?_ | refine zsm_I (by decide) ?_ | refine zsm_J ?_ | refine zsm_c (by assumption) (by decide) ?_), (by with_reducible repeat (first | exact LJr_rf | assumption | refine LJr_I (h := 0) (by decide) (Nat.zero_le _) ?_ | refine LJr_I (h := 3) (by decide) (by omega) ?_ | refine LJr_I (h := 4) (by decide) (by omega) ?_ | refine LJr_I (h := 5) (by decide) (by omega) ?_ | refine LJr_I (h := 7) (by decide) (by omega) ?_ | refine LJr_I (h := 20) (by decide) (by omega) ?_ | refine LJr_I (h := 64) (by decide) (by omega) ?_ | refine LJr_c (by assumption) ?_)), ⟨by omega, fun q => by omega, fun _ => ⟨by omega, by omega, fun j => by rw [t70]; simp only [zuI_1, zuI_2, zuJ_1, zuJ_2, zuJ_3, zuP_1, zuP_2, zuP_3, zuC_1, zuC_2, reduceIte, Nat.reduceEqDiff, false_and, and_false, true_and, and_true, and_self, or_true, true_or, or_false, false_or], hq43, t1004, t1005⟩⟩⟩
    · skip
      refine zs_aload_n (pc := 27) C dX9_newName_27 rfl ?_
      refine zs_iconst (pc := 28) C dX9_newName_28 (by decide) ?_
      refine zVi1 (pc := 29) C dX9_newName_29 v_X9_220 (c_X9_wrongY hX ) (by decide) (by decide) ⟨Nat.zero_le _, Nat.zero_le _⟩ (Nat.le_of_ble_eq_true rfl) (fun x29 G29 l29 u29 hp29 => ?_)
      obtain ⟨hz29, lo29, hq29⟩ := hp29
      exact zs_zret (pc := 32) C hr hlk dX9_newName_32 (by omega) ⟨by repeat (first | exact zsm_rf | assumption | refine zsm_C (by decide) ?_ | refine zsm_I (by decide) ?_ | refine zsm_J ?_ | refine zsm_c (by assumption) (by decide) ?_), (by with_reducible repeat (first | exact LJr_rf | assumption | refine LJr_I (h := 0) (by decide) (Nat.zero_le _) ?_ | refine LJr_I (h := 3) (by decide) (by omega) ?_ | refine LJr_I (h := 4) (by decide) (by omega) ?_ | refine LJr_I (h := 5) (by decide) (by omega) ?_ | refine LJr_I (h := 7) (by decide) (by omega) ?_ | refine LJr_I (h := 20) (by decide) (by omega) ?_ | refine LJr_I (h := 64) (by decide) (by omega) ?_ | refine LJr_c (by assumption) ?_)), ⟨by omega, fun _ => ⟨hq29.2.2.trans g10, Or.inr ⟨by omega, by omega, hq29.2.1⟩⟩, fun q => by omega⟩⟩
  · skip
    refine zs_aload_n (pc := 8) C dX9_newName_8 rfl ?_
    refine zs_iconst (pc := 9) C dX9_newName_9 (by decide) ?_
    refine zVi1 (pc := 10) C dX9_newName_10 v_X9_220 (c_X9_wrongY hX ) (by decide) (by decide) ⟨Nat.zero_le _, Nat.zero_le _⟩ (Nat.le_of_ble_eq_true rfl) (fun x10 G10 l10 u10 hp10 => ?_)
    obtain ⟨hz10, lo10, hq10⟩ := hp10
    exact zs_zret (pc := 13) C hr hlk dX9_newName_13 (by omega) ⟨by repeat (first | exact zsm_rf | assumption | refine zsm_C (by decide) ?_ | refine zsm_I (by decide) ?_ | refine zsm_J ?_ | refine zsm_c (by assumption) (by decide) ?_), (by with_reducible repeat (first | exact LJr_rf | assumption | refine LJr_I (h := 0) (by decide) (Nat.zero_le _) ?_ | refine LJr_I (h := 3) (by decide) (by omega) ?_ | refine LJr_I (h := 4) (by decide) (by omega) ?_ | refine LJr_I (h := 5) (by decide) (by omega) ?_ | refine LJr_I (h := 7) (by decide) (by omega) ?_ | refine LJr_I (h := 20) (by decide) (by omega) ?_ | refine LJr_I (h := 64) (by decide) (by omega) ?_ | refine LJr_c (by assumption) ?_)), ⟨by omega, fun _ => ⟨hq10.2.2.trans g10, Or.inl ⟨by omega, hq10.2.1⟩⟩, fun q => by omega⟩⟩
