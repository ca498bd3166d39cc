/-- what holds of the laws that are being read -/
def RC (Γ : zΓ) (w : Nat) (G : zH) : Prop := G.1 1045 w 0 = G.1 1021 w 0 ∧ ∀ j : Nat, 7 ≤ j → j < 14 → G.1 2071 (Γ.2.1 w 34) j = 1 → 1 ≤ G.1 2073 (Γ.2.1 w 36) j
theorem RC_sm {Γ : zΓ} {w : Nat} {G G1 : zH} {rs : List Nat} (h : zsm rs G G1) (hr : 1045 ∉ rs ∧ 1021 ∉ rs ∧ 2071 ∉ rs ∧ 2073 ∉ rs) (hC : RC Γ w G) : RC Γ w G1 := by
  obtain ⟨h1, h2, h3, h4⟩ := hr
  unfold RC
  rw [h.1 _ h1, h.1 _ h2, h.1 _ h3, h.1 _ h4]
  exact hC
theorem RC_I {Γ : zΓ} {w : Nat} {G : zH} {r a i : Nat} {x : Int} (hr : r ≠ 1045 ∧ r ≠ 1021 ∧ r ≠ 2071 ∧ r ≠ 2073) (hC : RC Γ w G) : RC Γ w (zuI G r a i x) :=
  RC_sm (rs := [r]) (zsm_I (by simp) zsm_rf) (by simp; omega) hC
theorem MI_h71 {Γ : zΓ} {w : Nat} {G : zH} {i : Nat} {x : Int} (hi : 7 ≤ i) (hM : MI Γ w G) : MI Γ w (zuI G 2071 (Γ.2.1 w 34) i x) := by
  refine ⟨fun k hk => ?_, fun j hj => ?_⟩
  · rw [zuI_1, zuI_1, if_neg (fun q => by omega), if_neg (fun q => by omega)]
    exact hM.1 k hk
  · rw [zuI_ne (show (2074 : Nat) ≠ 2071 by decide), zuI_ne (show (2075 : Nat) ≠ 2071 by decide), zuI_ne (show (2076 : Nat) ≠ 2071 by decide)]
    exact hM.2 j hj
theorem MI_h73 {Γ : zΓ} {w : Nat} {G : zH} {i : Nat} {x : Int} (hi : 7 ≤ i) (hM : MI Γ w G) : MI Γ w (zuI G 2073 (Γ.2.1 w 36) i x) := by
  refine ⟨fun k hk => ?_, fun j hj => ?_⟩
  · rw [zuI_1, zuI_1, if_neg (fun q => by omega), if_neg (fun q => by omega)]
    exact hM.1 k hk
  · rw [zuI_ne (show (2074 : Nat) ≠ 2073 by decide), zuI_ne (show (2075 : Nat) ≠ 2073 by decide), zuI_ne (show (2076 : Nat) ≠ 2073 by decide)]
    exact hM.2 j hj
theorem RC_law {Γ : zΓ} {w : Nat} {G G1 : zH} {rs : List Nat} {b i : Nat} {v x : Int} (h : zsm rs (zuI (zuI G 2071 (Γ.2.1 w 34) i 1) 2072 b i v) G1) (hr : 2071 ∉ rs ∧ 2073 ∉ rs) (hC : RC Γ w G) (hc : G1.1 1045 w 0 = G1.1 1021 w 0) (hx : 1 ≤ x) : RC Γ w (zuI G1 2073 (Γ.2.1 w 36) i x) := by
  refine ⟨?_, fun j h1 h2 => ?_⟩
  · rw [zuI_ne (show (1045 : Nat) ≠ 2073 by decide), zuI_ne (show (1021 : Nat) ≠ 2073 by decide)]
    exact hc
  · rw [zuI_ne (show (2071 : Nat) ≠ 2073 by decide), zuI_1]
    by_cases q : j = i
    · rw [if_pos ⟨rfl, rfl, q⟩]
      exact fun _ => hx
    · rw [if_neg (fun q2 => q q2.2.2), h.1 2071 hr.1, h.1 2073 hr.2, zuI_ne (show (2071 : Nat) ≠ 2072 by decide), zuI_ne (show (2073 : Nat) ≠ 2072 by decide), zuI_ne (show (2073 : Nat) ≠ 2071 by decide), zuI_1, if_neg (fun q2 => q q2.2.2)]
      exact hC.2 j h1 h2

set_option maxHeartbeats 4000000 in
set_option maxRecDepth 100000 in
theorem c_X9_lawRead {l : Launch} {Γ : zΓ} {G : zH} {w : Nat} {k : Int} (hX : zXs Γ) (hM : MI Γ w G)(hT : TI w G) (hC : RC Γ w G) (hk : 7 ≤ k ∧ k < 14) : zMet l Γ yX9_lawRead cX9_lawRead 2 (some .boolean) 4 [zr 10 w, zi k] G (zpi (fun x G' => zsm [1007, 1008, 1009, 1010, 1004, 1005, 2074, 2075, 2076, 2078, 1043, 1021, 2077, 1042, 1044, 1045, 1046, 1047, 2071, 2072, 2073] G G' ∧ ((x = 0 ∨ x = 1) ∧ MI Γ w G' ∧ (x = 1 → TI w G' ∧ RC Γ w G' ∧ G.1 1010 w 0 ≤ G'.1 1010 w 0)))) := by
  have hc := hC.1
  refine zMet_of RX9 hX (by decide) rfl (Nat.le_of_ble_eq_true rfl) ?_
  intro p e s m args below meth c C hr hlk
  show Z p l e (zrm 4) s m args below meth c Γ 2 0 0 (MQ below (zQc Γ (zpi (fun x G' => zsm [1007, 1008, 1009, 1010, 1004, 1005, 2074, 2075, 2076, 2078, 1043, 1021, 2077, 1042, 1044, 1045, 1046, 1047, 2071, 2072, 2073] G G' ∧ ((x = 0 ∨ x = 1) ∧ MI Γ w G' ∧ (x = 1 → TI w G' ∧ RC Γ w G' ∧ G.1 1010 w 0 ≤ G'.1 1010 w 0))))) args s 0 0 (zA Γ)) 0 [some (zr 10 w), some (zi k)] [] G
  refine zs_loc 1 rfl (fun ha1 hb1 => ?_)
  refine zs_aload_n (pc := 0) C dX9_lawRead_0 rfl ?_
  refine zs_getf (pc := 1) C dX9_lawRead_1 w_X9_57 f_10_34 (by decide) ?_
  refine zs_iload_n (pc := 4) C dX9_lawRead_4 rfl ?_
  refine zs_iconst (pc := 5) C dX9_lawRead_5 (by decide) ?_
  refine zs_zast (r := 2071) (pc := 6) C dX9_lawRead_6 a_71 (by decide) (by omega) rfl (r_2071 _) (by omega) (by omega) ?_
  refine zs_aload_n (pc := 7) C dX9_lawRead_7 rfl ?_
  refine zs_getf (pc := 8) C dX9_lawRead_8 w_X9_60 f_10_35 (by decide) ?_
  refine zs_iload_n (pc := 11) C dX9_lawRead_11 rfl ?_
  refine zs_aload_n (pc := 12) C dX9_lawRead_12 rfl ?_
  refine zs_geti (r := 1021) (pc := 13) C dX9_lawRead_13 w_X9_252 f_10_21 rfl (r_1021 0) (fun v13 e13 l13 u13 => ?_)
  try simp only [zuI_1, zuI_2, zuJ_1, zuJ_2, zuJ_3, zuP_1, zuP_2, zuP_3, zuC_1, zuC_2, reduceIte, Nat.reduceEqDiff, false_and, and_false, true_and, and_true, and_self, or_true, true_or, or_false, false_or] at e13
  refine zs_iast (r := 2072) (pc := 16) C dX9_lawRead_16 a_72 (by decide) (by omega) rfl (r_2072 _) (by omega) ?_
  refine zs_aload_n (pc := 17) C dX9_lawRead_17 rfl ?_
  refine zVi0 (pc := 18) C dX9_lawRead_18 v_X9_291 (c_X9_sumRead hX (MI_I (by decide) (MI_h71 (by omega) hM)) (by repeat (first | assumption | refine TI_I (by decide) ?_ | refine TI_sm (by assumption) (by decide) ?_)) (by first | omega | (simp only [zuI_1, zuI_2, zuJ_1, zuJ_2, zuJ_3, zuP_1, zuP_2, zuP_3, zuC_1, zuC_2, reduceIte, Nat.reduceEqDiff, false_and, and_false, true_and, and_true, and_self, or_true, true_or, or_false, false_or]; omega))) (by decide) (by decide) ⟨Nat.zero_le _, Nat.zero_le _⟩ (Nat.le_of_ble_eq_true rfl) (fun x18 G18 l18 u18 hp18 => ?_)
  obtain ⟨hz18, hq18⟩ := hp18
  try simp only [zuI_1, zuI_2, zuJ_1, zuJ_2, zuJ_3, zuP_1, zuP_2, zuP_3, zuC_1, zuC_2, reduceIte, Nat.reduceEqDiff, false_and, and_false, true_and, and_true, and_self, or_true, true_or, or_false, false_or] at hq18
  have hMI := hq18.2.1
  have hx := hq18.2.2
  refine zs_if_ne (tgt := 26) (pc := 21) C dX9_lawRead_21 (by decide) (fun h21 => ?_) (fun h21 => ?_)
  · skip
    have hy := hx (by omega)
    have hTI := hy.1
    have hy2 := hy.2.1
    have hy3 := hy.2.2.1
    have hy4 := hy.2.2.2
    try simp only [zuI_1, zuI_2, zuJ_1, zuJ_2, zuJ_3, zuP_1, zuP_2, zuP_3, zuC_1, zuC_2, reduceIte, Nat.reduceEqDiff, false_and, and_false, true_and, and_true, and_self, or_true, true_or, or_false, false_or] at hy4
    refine zs_aload_n (pc := 26) C dX9_lawRead_26 rfl ?_
    refine zs_getf (pc := 27) C dX9_lawRead_27 w_X9_63 f_10_36 (by decide) ?_
    refine zs_iload_n (pc := 30) C dX9_lawRead_30 rfl ?_
    refine zs_aload_n (pc := 31) C dX9_lawRead_31 rfl ?_
    refine zs_geti (r := 1021) (pc := 32) C dX9_lawRead_32 w_X9_252 f_10_21 rfl (r_1021 0) (fun v32 e32 l32 u32 => ?_)
    refine zs_iast (r := 2073) (pc := 35) C dX9_lawRead_35 a_73 (by decide) (by omega) rfl (r_2073 _) (by omega) ?_
    refine zs_iconst (pc := 36) C dX9_lawRead_36 (by decide) ?_
    exact zs_zret (pc := 37) C hr hlk dX9_lawRead_37 (by omega) ⟨by repeat (first | exact zsm_rf | assumption | refine zsm_C (by decide) ?_ | refine zsm_I (by decide) ?_ | refine zsm_J ?_ | refine zsm_c (by assumption) (by decide) ?_), ⟨by omega, by first | assumption | exact MI_h73 (by omega) hMI, fun q => by first | (exfalso; omega) | exact ⟨(by repeat (first | assumption | refine TI_I (by decide) ?_ | refine TI_sm (by assumption) (by decide) ?_)), RC_law hz18 (by decide) hC hy3 (by omega), (by first | omega | (simp only [zuI_1, zuI_2, zuJ_1, zuJ_2, zuJ_3, zuP_1, zuP_2, zuP_3, zuC_1, zuC_2, reduceIte, Nat.reduceEqDiff, false_and, and_false, true_and, and_true, and_self, or_true, true_or, or_false, false_or]; omega))⟩⟩⟩
  · skip
    refine zs_iconst (pc := 24) C dX9_lawRead_24 (by decide) ?_
    exact zs_zret (pc := 25) C hr hlk dX9_lawRead_25 (by omega) ⟨by repeat (first | exact zsm_rf | assumption | refine zsm_C (by decide) ?_ | refine zsm_I (by decide) ?_ | refine zsm_J ?_ | refine zsm_c (by assumption) (by decide) ?_), ⟨by omega, by first | assumption | exact MI_h73 (by omega) hMI, fun q => by first | (exfalso; omega) | exact ⟨(by repeat (first | assumption | refine TI_I (by decide) ?_ | refine TI_sm (by assumption) (by decide) ?_)), RC_law hz18 (by decide) hC hy3 (by omega), (by first | omega | (simp only [zuI_1, zuI_2, zuJ_1, zuJ_2, zuJ_3, zuP_1, zuP_2, zuP_3, zuC_1, zuC_2, reduceIte, Nat.reduceEqDiff, false_and, and_false, true_and, and_true, and_self, or_true, true_or, or_false, false_or]; omega))⟩⟩⟩

set_option maxHeartbeats 4000000 in
set_option maxRecDepth 100000 in
theorem c_X9_newName61 {l : Launch} {Γ : zΓ} {G : zH} {w a : Nat} {b n : Int} (hX : zXs Γ) (hT : TI w G) (hn : 0 ≤ b ∧ 0 ≤ n ∧ b + n < 8) : zMet l Γ yX9_newName cX9_newName 4 (some .boolean) 2 [zr 10 w, zr 61 a, zi b, zi n] G (zpi (fun x G' => zsm [2061, 1007, 1008, 1009, 1010, 1004, 1005] G G' ∧ ((x = 0 ∨ x = 1) ∧ (x = 1 → TI w G' ∧ G.1 1010 w 0 < G'.1 1010 w 0)))) := by
  have t1 := hT.1
  have t3 := hT.2.2.1
  refine zMet_of RX9 hX (by decide) rfl (Nat.le_of_ble_eq_true rfl) ?_
  intro p e s m args below meth c C hr hlk
  show Z p l e (zrm 2) s m args below meth c Γ 4 0 0 (MQ below (zQc Γ (zpi (fun x G' => zsm [2061, 1007, 1008, 1009, 1010, 1004, 1005] G G' ∧ ((x = 0 ∨ x = 1) ∧ (x = 1 → TI w G' ∧ G.1 1010 w 0 < G'.1 1010 w 0))))) args s 0 0 (zA Γ)) 0 [some (zr 10 w), some (zr 61 a), some (zi b), some (zi n)] [] G
  refine zs_loc 2 rfl (fun ha2 hb2 => ?_)
  refine zs_loc 3 rfl (fun ha3 hb3 => ?_)
  refine zs_aload_n (pc := 0) C dX9_newName_0 rfl ?_
  refine zs_geti (r := 1008) (pc := 1) C dX9_newName_1 w_X9_196 f_10_8 rfl (r_1008 0) (fun v1 e1 l1 u1 => ?_)
  refine zs_iconst (pc := 4) C dX9_newName_4 (by decide) ?_
  refine zs_icmp_eq (tgt := 14) (pc := 5) C dX9_newName_5 (by decide) (fun h5 => ?_) (fun h5 => ?_)
  · skip
    refine zs_aload_n (pc := 14) C dX9_newName_14 rfl ?_
    refine zs_iload_n (pc := 15) C dX9_newName_15 rfl ?_
    refine zs_iload_n (pc := 16) C dX9_newName_16 rfl ?_
    refine zs_aload_n (pc := 17) C dX9_newName_17 rfl ?_
    refine zs_geti (r := 1009) (pc := 18) C dX9_newName_18 w_X9_207 f_10_9 rfl (r_1009 0) (fun v18 e18 l18 u18 => ?_)
    refine zSip4 (pc := 21) C dX9_newName_21 s_X9_280 (c_X9_find hX a_61 (by decide) (by decide) (by omega)) (by decide) ⟨Nat.zero_le _, Nat.zero_le _⟩ (Nat.le_of_ble_eq_true rfl) (fun x21 l21 u21 hp21 => ?_)
    have hq21 := hp21
    refine zs_if_lt (tgt := 33) (pc := 24) C dX9_newName_24 (by decide) (fun h24 => ?_) (fun h24 => ?_)
    · skip
      refine zs_aload_n (pc := 33) C dX9_newName_33 rfl ?_
      refine zs_iload_n (pc := 34) C dX9_newName_34 rfl ?_
      refine zs_iload_n (pc := 35) C dX9_newName_35 rfl ?_
      first | refine zs_iadd (pc := 36) C dX9_newName_36 (by omega) ?_ | refine zs_iaddF (pc := 36) C dX9_newName_36 (fun z36 hz361 hz362 => ?_)
      refine zs_aload_n (pc := 37) C dX9_newName_37 rfl ?_
      refine zs_geti (r := 1009) (pc := 38) C dX9_newName_38 w_X9_207 f_10_9 rfl (r_1009 0) (fun v38 e38 l38 u38 => ?_)
      refine zs_iast (r := 2061) (pc := 41) C dX9_newName_41 a_61 (by decide) (by omega) rfl (r_2061 _) (by omega) ?_
      refine zs_aload_n (pc := 42) C dX9_newName_42 rfl ?_
      refine zVv0 (pc := 43) C dX9_newName_43 v_X9_230 (c_X9_token hX (by first | omega | (simp only [zuI_1, zuI_2, zuJ_1, zuJ_2, zuJ_3, zuP_1, zuP_2, zuP_3, zuC_1, zuC_2, reduceIte, Nat.reduceEqDiff, false_and, and_false, true_and, and_true, and_self, or_true, true_or, or_false, false_or]; omega))) (by decide) (by decide) ⟨Nat.zero_le _, Nat.zero_le _⟩ (Nat.le_of_ble_eq_true rfl) (fun G43 hp43 => ?_)
      obtain ⟨hz43, hq43⟩ := hp43
      try simp only [zuI_1, zuI_2, zuJ_1, zuJ_2, zuJ_3, zuP_1, zuP_2, zuP_3, zuC_1, zuC_2, reduceIte, Nat.reduceEqDiff, false_and, and_false, true_and, and_true, and_self, or_true, true_or, or_false, false_or] at hq43
      have tr43_1006 := zsm_at hz43 1006 w 0 (by decide)
      try simp only [zuI_1, zuI_2, zuJ_1, zuJ_2, zuJ_3, zuP_1, zuP_2, zuP_3, zuC_1, zuC_2, reduceIte, Nat.reduceEqDiff, false_and, and_false, true_and, and_true, and_self, or_true, true_or, or_false, false_or] at tr43_1006
      have hTI := hq43.1
      refine zs_iconst (pc := 46) C dX9_newName_46 (by decide) ?_
      exact zs_zret (pc := 47) C hr hlk dX9_newName_47 (by omega) ⟨by repeat (first | exact zsm_rf | assumption | refine zsm_C (by decide) ?_ | refine zsm_I (by decide) ?_ | refine zsm_J ?_ | refine zsm_c (by assumption) (by decide) ?_), ⟨by omega, fun q => by first | (exfalso; omega) | exact ⟨(by repeat (first | assumption | refine TI_I (by decide) ?_ | refine TI_sm (by assumption) (by decide) ?_)), (by first | omega | (simp only [zuI_1, zuI_2, zuJ_1, zuJ_2, zuJ_3, zuP_1, zuP_2, zuP_3, zuC_1, zuC_2, reduceIte, Nat.reduceEqDiff, false_and, and_false, true_and, and_true, and_self, or_true, true_or, or_false, false_or]; omega))⟩⟩⟩
    · skip
      refine zs_aload_n (pc := 27) C dX9_newName_27 rfl ?_
      refine zs_iconst (pc := 28) C dX9_newName_28 (by decide) ?_
      refine zVi1 (pc := 29) C dX9_newName_29 v_X9_220 (c_X9_wrong hX ) (by decide) (by decide) ⟨Nat.zero_le _, Nat.zero_le _⟩ (Nat.le_of_ble_eq_true rfl) (fun x29 G29 l29 u29 hp29 => ?_)
      obtain ⟨hz29, hq29⟩ := hp29
      have tr29_1007 := zsm_at hz29 1007 w 0 (by decide)
      try simp only [zuI_1, zuI_2, zuJ_1, zuJ_2, zuJ_3, zuP_1, zuP_2, zuP_3, zuC_1, zuC_2, reduceIte, Nat.reduceEqDiff, false_and, and_false, true_and, and_true, and_self, or_true, true_or, or_false, false_or] at tr29_1007
      have tr29_1010 := zsm_at hz29 1010 w 0 (by decide)
      try simp only [zuI_1, zuI_2, zuJ_1, zuJ_2, zuJ_3, zuP_1, zuP_2, zuP_3, zuC_1, zuC_2, reduceIte, Nat.reduceEqDiff, false_and, and_false, true_and, and_true, and_self, or_true, true_or, or_false, false_or] at tr29_1010
      have tr29_1006 := zsm_at hz29 1006 w 0 (by decide)
      try simp only [zuI_1, zuI_2, zuJ_1, zuJ_2, zuJ_3, zuP_1, zuP_2, zuP_3, zuC_1, zuC_2, reduceIte, Nat.reduceEqDiff, false_and, and_false, true_and, and_true, and_self, or_true, true_or, or_false, false_or] at tr29_1006
      exact zs_zret (pc := 32) C hr hlk dX9_newName_32 (by omega) ⟨by repeat (first | exact zsm_rf | assumption | refine zsm_C (by decide) ?_ | refine zsm_I (by decide) ?_ | refine zsm_J ?_ | refine zsm_c (by assumption) (by decide) ?_), ⟨by omega, fun q => by first | (exfalso; omega) | exact ⟨(by repeat (first | assumption | refine TI_I (by decide) ?_ | refine TI_sm (by assumption) (by decide) ?_)), (by first | omega | (simp only [zuI_1, zuI_2, zuJ_1, zuJ_2, zuJ_3, zuP_1, zuP_2, zuP_3, zuC_1, zuC_2, reduceIte, Nat.reduceEqDiff, false_and, and_false, true_and, and_true, and_self, or_true, true_or, or_false, false_or]; omega))⟩⟩⟩
  · skip
    refine zs_aload_n (pc := 8) C dX9_newName_8 rfl ?_
    refine zs_iconst (pc := 9) C dX9_newName_9 (by decide) ?_
    refine zVi1 (pc := 10) C dX9_newName_10 v_X9_220 (c_X9_wrong hX ) (by decide) (by decide) ⟨Nat.zero_le _, Nat.zero_le _⟩ (Nat.le_of_ble_eq_true rfl) (fun x10 G10 l10 u10 hp10 => ?_)
    obtain ⟨hz10, hq10⟩ := hp10
    have tr10_1007 := zsm_at hz10 1007 w 0 (by decide)
    try simp only [zuI_1, zuI_2, zuJ_1, zuJ_2, zuJ_3, zuP_1, zuP_2, zuP_3, zuC_1, zuC_2, reduceIte, Nat.reduceEqDiff, false_and, and_false, true_and, and_true, and_self, or_true, true_or, or_false, false_or] at tr10_1007
    have tr10_1010 := zsm_at hz10 1010 w 0 (by decide)
    try simp only [zuI_1, zuI_2, zuJ_1, zuJ_2, zuJ_3, zuP_1, zuP_2, zuP_3, zuC_1, zuC_2, reduceIte, Nat.reduceEqDiff, false_and, and_false, true_and, and_true, and_self, or_true, true_or, or_false, false_or] at tr10_1010
    have tr10_1006 := zsm_at hz10 1006 w 0 (by decide)
    try simp only [zuI_1, zuI_2, zuJ_1, zuJ_2, zuJ_3, zuP_1, zuP_2, zuP_3, zuC_1, zuC_2, reduceIte, Nat.reduceEqDiff, false_and, and_false, true_and, and_true, and_self, or_true, true_or, or_false, false_or] at tr10_1006
    exact zs_zret (pc := 13) C hr hlk dX9_newName_13 (by omega) ⟨by repeat (first | exact zsm_rf | assumption | refine zsm_C (by decide) ?_ | refine zsm_I (by decide) ?_ | refine zsm_J ?_ | refine zsm_c (by assumption) (by decide) ?_), ⟨by omega, fun q => by first | (exfalso; omega) | exact ⟨(by repeat (first | assumption | refine TI_I (by decide) ?_ | refine TI_sm (by assumption) (by decide) ?_)), (by first | omega | (simp only [zuI_1, zuI_2, zuJ_1, zuJ_2, zuJ_3, zuP_1, zuP_2, zuP_3, zuC_1, zuC_2, reduceIte, Nat.reduceEqDiff, false_and, and_false, true_and, and_true, and_self, or_true, true_or, or_false, false_or]; omega))⟩⟩⟩

set_option maxHeartbeats 4000000 in
set_option maxRecDepth 100000 in
theorem c_X9_newName63 {l : Launch} {Γ : zΓ} {G : zH} {w a : Nat} {b n : Int} (hX : zXs Γ) (hT : TI w G) (hn : 0 ≤ b ∧ 0 ≤ n ∧ b + n < 10) : zMet l Γ yX9_newName cX9_newName 4 (some .boolean) 2 [zr 10 w, zr 63 a, zi b, zi n] G (zpi (fun x G' => zsm [2063, 1007, 1008, 1009, 1010, 1004, 1005] G G' ∧ ((x = 0 ∨ x = 1) ∧ (x = 1 → TI w G' ∧ G.1 1010 w 0 < G'.1 1010 w 0)))) := by
  have t1 := hT.1
  have t3 := hT.2.2.1
  refine zMet_of RX9 hX (by decide) rfl (Nat.le_of_ble_eq_true rfl) ?_
  intro p e s m args below meth c C hr hlk
  show Z p l e (zrm 2) s m args below meth c Γ 4 0 0 (MQ below (zQc Γ (zpi (fun x G' => zsm [2063, 1007, 1008, 1009, 1010, 1004, 1005] G G' ∧ ((x = 0 ∨ x = 1) ∧ (x = 1 → TI w G' ∧ G.1 1010 w 0 < G'.1 1010 w 0))))) args s 0 0 (zA Γ)) 0 [some (zr 10 w), some (zr 63 a), some (zi b), some (zi n)] [] G
  refine zs_loc 2 rfl (fun ha2 hb2 => ?_)
  refine zs_loc 3 rfl (fun ha3 hb3 => ?_)
  refine zs_aload_n (pc := 0) C dX9_newName_0 rfl ?_
  refine zs_geti (r := 1008) (pc := 1) C dX9_newName_1 w_X9_196 f_10_8 rfl (r_1008 0) (fun v1 e1 l1 u1 => ?_)
  refine zs_iconst (pc := 4) C dX9_newName_4 (by decide) ?_
  refine zs_icmp_eq (tgt := 14) (pc := 5) C dX9_newName_5 (by decide) (fun h5 => ?_) (fun h5 => ?_)
  · skip
    refine zs_aload_n (pc := 14) C dX9_newName_14 rfl ?_
    refine zs_iload_n (pc := 15) C dX9_newName_15 rfl ?_
    refine zs_iload_n (pc := 16) C dX9_newName_16 rfl ?_
    refine zs_aload_n (pc := 17) C dX9_newName_17 rfl ?_
    refine zs_geti (r := 1009) (pc := 18) C dX9_newName_18 w_X9_207 f_10_9 rfl (r_1009 0) (fun v18 e18 l18 u18 => ?_)
    refine zSip4 (pc := 21) C dX9_newName_21 s_X9_280 (c_X9_find hX a_63 (by decide) (by decide) (by omega)) (by decide) ⟨Nat.zero_le _, Nat.zero_le _⟩ (Nat.le_of_ble_eq_true rfl) (fun x21 l21 u21 hp21 => ?_)
    have hq21 := hp21
    refine zs_if_lt (tgt := 33) (pc := 24) C dX9_newName_24 (by decide) (fun h24 => ?_) (fun h24 => ?_)
    · skip
      refine zs_aload_n (pc := 33) C dX9_newName_33 rfl ?_
      refine zs_iload_n (pc := 34) C dX9_newName_34 rfl ?_
      refine zs_iload_n (pc := 35) C dX9_newName_35 rfl ?_
      first | refine zs_iadd (pc := 36) C dX9_newName_36 (by omega) ?_ | refine zs_iaddF (pc := 36) C dX9_newName_36 (fun z36 hz361 hz362 => ?_)
      refine zs_aload_n (pc := 37) C dX9_newName_37 rfl ?_
      refine zs_geti (r := 1009) (pc := 38) C dX9_newName_38 w_X9_207 f_10_9 rfl (r_1009 0) (fun v38 e38 l38 u38 => ?_)
      refine zs_iast (r := 2063) (pc := 41) C dX9_newName_41 a_63 (by decide) (by omega) rfl (r_2063 _) (by omega) ?_
      refine zs_aload_n (pc := 42) C dX9_newName_42 rfl ?_
      refine zVv0 (pc := 43) C dX9_newName_43 v_X9_230 (c_X9_token hX (by first | omega | (simp only [zuI_1, zuI_2, zuJ_1, zuJ_2, zuJ_3, zuP_1, zuP_2, zuP_3, zuC_1, zuC_2, reduceIte, Nat.reduceEqDiff, false_and, and_false, true_and, and_true, and_self, or_true, true_or, or_false, false_or]; omega))) (by decide) (by decide) ⟨Nat.zero_le _, Nat.zero_le _⟩ (Nat.le_of_ble_eq_true rfl) (fun G43 hp43 => ?_)
      obtain ⟨hz43, hq43⟩ := hp43
      try simp only [zuI_1, zuI_2, zuJ_1, zuJ_2, zuJ_3, zuP_1, zuP_2, zuP_3, zuC_1, zuC_2, reduceIte, Nat.reduceEqDiff, false_and, and_false, true_and, and_true, and_self, or_true, true_or, or_false, false_or] at hq43
      have tr43_1006 := zsm_at hz43 1006 w 0 (by decide)
      try simp only [zuI_1, zuI_2, zuJ_1, zuJ_2, zuJ_3, zuP_1, zuP_2, zuP_3, zuC_1, zuC_2, reduceIte, Nat.reduceEqDiff, false_and, and_false, true_and, and_true, and_self, or_true, true_or, or_false, false_or] at tr43_1006
      have hTI := hq43.1
      refine zs_iconst (pc := 46) C dX9_newName_46 (by decide) ?_
      exact zs_zret (pc := 47) C hr hlk dX9_newName_47 (by omega) ⟨by repeat (first | exact zsm_rf | assumption | refine zsm_C (by decide) ?_ | refine zsm_I (by decide) ?_ | refine zsm_J ?_ | refine zsm_c (by assumption) (by decide) ?_), ⟨by omega, fun q => by first | (exfalso; omega) | exact ⟨(by repeat (first | assumption | refine TI_I (by decide) ?_ | refine TI_sm (by assumption) (by decide) ?_)), (by first | omega | (simp only [zuI_1, zuI_2, zuJ_1, zuJ_2, zuJ_3, zuP_1, zuP_2, zuP_3, zuC_1, zuC_2, reduceIte, Nat.reduceEqDiff, false_and, and_false, true_and, and_true, and_self, or_true, true_or, or_false, false_or]; omega))⟩⟩⟩
    · skip
      refine zs_aload_n (pc := 27) C dX9_newName_27 rfl ?_
      refine zs_iconst (pc := 28) C dX9_newName_28 (by decide) ?_
      refine zVi1 (pc := 29) C dX9_newName_29 v_X9_220 (c_X9_wrong hX ) (by decide) (by decide) ⟨Nat.zero_le _, Nat.zero_le _⟩ (Nat.le_of_ble_eq_true rfl) (fun x29 G29 l29 u29 hp29 => ?_)
      obtain ⟨hz29, hq29⟩ := hp29
      have tr29_1007 := zsm_at hz29 1007 w 0 (by decide)
      try simp only [zuI_1, zuI_2, zuJ_1, zuJ_2, zuJ_3, zuP_1, zuP_2, zuP_3, zuC_1, zuC_2, reduceIte, Nat.reduceEqDiff, false_and, and_false, true_and, and_true, and_self, or_true, true_or, or_false, false_or] at tr29_1007
      have tr29_1010 := zsm_at hz29 1010 w 0 (by decide)
      try simp only [zuI_1, zuI_2, zuJ_1, zuJ_2, zuJ_3, zuP_1, zuP_2, zuP_3, zuC_1, zuC_2, reduceIte, Nat.reduceEqDiff, false_and, and_false, true_and, and_true, and_self, or_true, true_or, or_false, false_or] at tr29_1010
      have tr29_1006 := zsm_at hz29 1006 w 0 (by decide)
      try simp only [zuI_1, zuI_2, zuJ_1, zuJ_2, zuJ_3, zuP_1, zuP_2, zuP_3, zuC_1, zuC_2, reduceIte, Nat.reduceEqDiff, false_and, and_false, true_and, and_true, and_self, or_true, true_or, or_false, false_or] at tr29_1006
      exact zs_zret (pc := 32) C hr hlk dX9_newName_32 (by omega) ⟨by repeat (first | exact zsm_rf | assumption | refine zsm_C (by decide) ?_ | refine zsm_I (by decide) ?_ | refine zsm_J ?_ | refine zsm_c (by assumption) (by decide) ?_), ⟨by omega, fun q => by first | (exfalso; omega) | exact ⟨(by repeat (first | assumption | refine TI_I (by decide) ?_ | refine TI_sm (by assumption) (by decide) ?_)), (by first | omega | (simp only [zuI_1, zuI_2, zuJ_1, zuJ_2, zuJ_3, zuP_1, zuP_2, zuP_3, zuC_1, zuC_2, reduceIte, Nat.reduceEqDiff, false_and, and_false, true_and, and_true, and_self, or_true, true_or, or_false, false_or]; omega))⟩⟩⟩
  · skip
    refine zs_aload_n (pc := 8) C dX9_newName_8 rfl ?_
    refine zs_iconst (pc := 9) C dX9_newName_9 (by decide) ?_
    refine zVi1 (pc := 10) C dX9_newName_10 v_X9_220 (c_X9_wrong hX ) (by decide) (by decide) ⟨Nat.zero_le _, Nat.zero_le _⟩ (Nat.le_of_ble_eq_true rfl) (fun x10 G10 l10 u10 hp10 => ?_)
    obtain ⟨hz10, hq10⟩ := hp10
    have tr10_1007 := zsm_at hz10 1007 w 0 (by decide)
    try simp only [zuI_1, zuI_2, zuJ_1, zuJ_2, zuJ_3, zuP_1, zuP_2, zuP_3, zuC_1, zuC_2, reduceIte, Nat.reduceEqDiff, false_and, and_false, true_and, and_true, and_self, or_true, true_or, or_false, false_or] at tr10_1007
    have tr10_1010 := zsm_at hz10 1010 w 0 (by decide)
    try simp only [zuI_1, zuI_2, zuJ_1, zuJ_2, zuJ_3, zuP_1, zuP_2, zuP_3, zuC_1, zuC_2, reduceIte, Nat.reduceEqDiff, false_and, and_false, true_and, and_true, and_self, or_true, true_or, or_false, false_or] at tr10_1010
    have tr10_1006 := zsm_at hz10 1006 w 0 (by decide)
    try simp only [zuI_1, zuI_2, zuJ_1, zuJ_2, zuJ_3, zuP_1, zuP_2, zuP_3, zuC_1, zuC_2, reduceIte, Nat.reduceEqDiff, false_and, and_false, true_and, and_true, and_self, or_true, true_or, or_false, false_or] at tr10_1006
    exact zs_zret (pc := 13) C hr hlk dX9_newName_13 (by omega) ⟨by repeat (first | exact zsm_rf | assumption | refine zsm_C (by decide) ?_ | refine zsm_I (by decide) ?_ | refine zsm_J ?_ | refine zsm_c (by assumption) (by decide) ?_), ⟨by omega, fun q => by first | (exfalso; omega) | exact ⟨(by repeat (first | assumption | refine TI_I (by decide) ?_ | refine TI_sm (by assumption) (by decide) ?_)), (by first | omega | (simp only [zuI_1, zuI_2, zuJ_1, zuJ_2, zuJ_3, zuP_1, zuP_2, zuP_3, zuC_1, zuC_2, reduceIte, Nat.reduceEqDiff, false_and, and_false, true_and, and_true, and_self, or_true, true_or, or_false, false_or]; omega))⟩⟩⟩

set_option maxHeartbeats 4000000 in
set_option maxRecDepth 100000 in
theorem c_X9_newName66 {l : Launch} {Γ : zΓ} {G : zH} {w a : Nat} {b n : Int} (hX : zXs Γ) (hT : TI w G) (hn : 0 ≤ b ∧ 0 ≤ n ∧ b + n < 10) : zMet l Γ yX9_newName cX9_newName 4 (some .boolean) 2 [zr 10 w, zr 66 a, zi b, zi n] G (zpi (fun x G' => zsm [2066, 1007, 1008, 1009, 1010, 1004, 1005] G G' ∧ ((x = 0 ∨ x = 1) ∧ (x = 1 → TI w G' ∧ G.1 1010 w 0 < G'.1 1010 w 0)))) := by
  have t1 := hT.1
  have t3 := hT.2.2.1
  refine zMet_of RX9 hX (by decide) rfl (Nat.le_of_ble_eq_true rfl) ?_
  intro p e s m args below meth c C hr hlk
  show Z p l e (zrm 2) s m args below meth c Γ 4 0 0 (MQ below (zQc Γ (zpi (fun x G' => zsm [2066, 1007, 1008, 1009, 1010, 1004, 1005] G G' ∧ ((x = 0 ∨ x = 1) ∧ (x = 1 → TI w G' ∧ G.1 1010 w 0 < G'.1 1010 w 0))))) args s 0 0 (zA Γ)) 0 [some (zr 10 w), some (zr 66 a), some (zi b), some (zi n)] [] G
  refine zs_loc 2 rfl (fun ha2 hb2 => ?_)
  refine zs_loc 3 rfl (fun ha3 hb3 => ?_)
  refine zs_aload_n (pc := 0) C dX9_newName_0 rfl ?_
  refine zs_geti (r := 1008) (pc := 1) C dX9_newName_1 w_X9_196 f_10_8 rfl (r_1008 0) (fun v1 e1 l1 u1 => ?_)
  refine zs_iconst (pc := 4) C dX9_newName_4 (by decide) ?_
  refine zs_icmp_eq (tgt := 14) (pc := 5) C dX9_newName_5 (by decide) (fun h5 => ?_) (fun h5 => ?_)
  · skip
    refine zs_aload_n (pc := 14) C dX9_newName_14 rfl ?_
    refine zs_iload_n (pc := 15) C dX9_newName_15 rfl ?_
    refine zs_iload_n (pc := 16) C dX9_newName_16 rfl ?_
    refine zs_aload_n (pc := 17) C dX9_newName_17 rfl ?_
    refine zs_geti (r := 1009) (pc := 18) C dX9_newName_18 w_X9_207 f_10_9 rfl (r_1009 0) (fun v18 e18 l18 u18 => ?_)
    refine zSip4 (pc := 21) C dX9_newName_21 s_X9_280 (c_X9_find hX a_66 (by decide) (by decide) (by omega)) (by decide) ⟨Nat.zero_le _, Nat.zero_le _⟩ (Nat.le_of_ble_eq_true rfl) (fun x21 l21 u21 hp21 => ?_)
    have hq21 := hp21
    refine zs_if_lt (tgt := 33) (pc := 24) C dX9_newName_24 (by decide) (fun h24 => ?_) (fun h24 => ?_)
    · skip
      refine zs_aload_n (pc := 33) C dX9_newName_33 rfl ?_
      refine zs_iload_n (pc := 34) C dX9_newName_34 rfl ?_
      refine zs_iload_n (pc := 35) C dX9_newName_35 rfl ?_
      first | refine zs_iadd (pc := 36) C dX9_newName_36 (by omega) ?_ | refine zs_iaddF (pc := 36) C dX9_newName_36 (fun z36 hz361 hz362 => ?_)
      refine zs_aload_n (pc := 37) C dX9_newName_37 rfl ?_
      refine zs_geti (r := 1009) (pc := 38) C dX9_newName_38 w_X9_207 f_10_9 rfl (r_1009 0) (fun v38 e38 l38 u38 => ?_)
      refine zs_iast (r := 2066) (pc := 41) C dX9_newName_41 a_66 (by decide) (by omega) rfl (r_2066 _) (by omega) ?_
      refine zs_aload_n (pc := 42) C dX9_newName_42 rfl ?_
      refine zVv0 (pc := 43) C dX9_newName_43 v_X9_230 (c_X9_token hX (by first | omega | (simp only [zuI_1, zuI_2, zuJ_1, zuJ_2, zuJ_3, zuP_1, zuP_2, zuP_3, zuC_1, zuC_2, reduceIte, Nat.reduceEqDiff, false_and, and_false, true_and, and_true, and_self, or_true, true_or, or_false, false_or]; omega))) (by decide) (by decide) ⟨Nat.zero_le _, Nat.zero_le _⟩ (Nat.le_of_ble_eq_true rfl) (fun G43 hp43 => ?_)
      obtain ⟨hz43, hq43⟩ := hp43
      try simp only [zuI_1, zuI_2, zuJ_1, zuJ_2, zuJ_3, zuP_1, zuP_2, zuP_3, zuC_1, zuC_2, reduceIte, Nat.reduceEqDiff, false_and, and_false, true_and, and_true, and_self, or_true, true_or, or_false, false_or] at hq43
      have tr43_1006 := zsm_at hz43 1006 w 0 (by decide)
      try simp only [zuI_1, zuI_2, zuJ_1, zuJ_2, zuJ_3, zuP_1, zuP_2, zuP_3, zuC_1, zuC_2, reduceIte, Nat.reduceEqDiff, false_and, and_false, true_and, and_true, and_self, or_true, true_or, or_false, false_or] at tr43_1006
      have hTI := hq43.1
      refine zs_iconst (pc := 46) C dX9_newName_46 (by decide) ?_
      exact zs_zret (pc := 47) C hr hlk dX9_newName_47 (by omega) ⟨by repeat (first | exact zsm_rf | assumption | refine zsm_C (by decide) ?_ | refine zsm_I (by decide) ?_ | refine zsm_J ?_ | refine zsm_c (by assumption) (by decide) ?_), ⟨by omega, fun q => by first | (exfalso; omega) | exact ⟨(by repeat (first | assumption | refine TI_I (by decide) ?_ | refine TI_sm (by assumption) (by decide) ?_)), (by first | omega | (simp only [zuI_1, zuI_2, zuJ_1, zuJ_2, zuJ_3, zuP_1, zuP_2, zuP_3, zuC_1, zuC_2, reduceIte, Nat.reduceEqDiff, false_and, and_false, true_and, and_true, and_self, or_true, true_or, or_false, false_or]; omega))⟩⟩⟩
    · skip
      refine zs_aload_n (pc := 27) C dX9_newName_27 rfl ?_
      refine zs_iconst (pc := 28) C dX9_newName_28 (by decide) ?_
      refine zVi1 (pc := 29) C dX9_newName_29 v_X9_220 (c_X9_wrong hX ) (by decide) (by decide) ⟨Nat.zero_le _, Nat.zero_le _⟩ (Nat.le_of_ble_eq_true rfl) (fun x29 G29 l29 u29 hp29 => ?_)
      obtain ⟨hz29, hq29⟩ := hp29
      have tr29_1007 := zsm_at hz29 1007 w 0 (by decide)
      try simp only [zuI_1, zuI_2, zuJ_1, zuJ_2, zuJ_3, zuP_1, zuP_2, zuP_3, zuC_1, zuC_2, reduceIte, Nat.reduceEqDiff, false_and, and_false, true_and, and_true, and_self, or_true, true_or, or_false, false_or] at tr29_1007
      have tr29_1010 := zsm_at hz29 1010 w 0 (by decide)
      try simp only [zuI_1, zuI_2, zuJ_1, zuJ_2, zuJ_3, zuP_1, zuP_2, zuP_3, zuC_1, zuC_2, reduceIte, Nat.reduceEqDiff, false_and, and_false, true_and, and_true, and_self, or_true, true_or, or_false, false_or] at tr29_1010
      have tr29_1006 := zsm_at hz29 1006 w 0 (by decide)
      try simp only [zuI_1, zuI_2, zuJ_1, zuJ_2, zuJ_3, zuP_1, zuP_2, zuP_3, zuC_1, zuC_2, reduceIte, Nat.reduceEqDiff, false_and, and_false, true_and, and_true, and_self, or_true, true_or, or_false, false_or] at tr29_1006
      exact zs_zret (pc := 32) C hr hlk dX9_newName_32 (by omega) ⟨by repeat (first | exact zsm_rf | assumption | refine zsm_C (by decide) ?_ | refine zsm_I (by decide) ?_ | refine zsm_J ?_ | refine zsm_c (by assumption) (by decide) ?_), ⟨by omega, fun q => by first | (exfalso; omega) | exact ⟨(by repeat (first | assumption | refine TI_I (by decide) ?_ | refine TI_sm (by assumption) (by decide) ?_)), (by first | omega | (simp only [zuI_1, zuI_2, zuJ_1, zuJ_2, zuJ_3, zuP_1, zuP_2, zuP_3, zuC_1, zuC_2, reduceIte, Nat.reduceEqDiff, false_and, and_false, true_and, and_true, and_self, or_true, true_or, or_false, false_or]; omega))⟩⟩⟩
  · skip
    refine zs_aload_n (pc := 8) C dX9_newName_8 rfl ?_
    refine zs_iconst (pc := 9) C dX9_newName_9 (by decide) ?_
    refine zVi1 (pc := 10) C dX9_newName_10 v_X9_220 (c_X9_wrong hX ) (by decide) (by decide) ⟨Nat.zero_le _, Nat.zero_le _⟩ (Nat.le_of_ble_eq_true rfl) (fun x10 G10 l10 u10 hp10 => ?_)
    obtain ⟨hz10, hq10⟩ := hp10
    have tr10_1007 := zsm_at hz10 1007 w 0 (by decide)
    try simp only [zuI_1, zuI_2, zuJ_1, zuJ_2, zuJ_3, zuP_1, zuP_2, zuP_3, zuC_1, zuC_2, reduceIte, Nat.reduceEqDiff, false_and, and_false, true_and, and_true, and_self, or_true, true_or, or_false, false_or] at tr10_1007
    have tr10_1010 := zsm_at hz10 1010 w 0 (by decide)
    try simp only [zuI_1, zuI_2, zuJ_1, zuJ_2, zuJ_3, zuP_1, zuP_2, zuP_3, zuC_1, zuC_2, reduceIte, Nat.reduceEqDiff, false_and, and_false, true_and, and_true, and_self, or_true, true_or, or_false, false_or] at tr10_1010
    have tr10_1006 := zsm_at hz10 1006 w 0 (by decide)
    try simp only [zuI_1, zuI_2, zuJ_1, zuJ_2, zuJ_3, zuP_1, zuP_2, zuP_3, zuC_1, zuC_2, reduceIte, Nat.reduceEqDiff, false_and, and_false, true_and, and_true, and_self, or_true, true_or, or_false, false_or] at tr10_1006
    exact zs_zret (pc := 13) C hr hlk dX9_newName_13 (by omega) ⟨by repeat (first | exact zsm_rf | assumption | refine zsm_C (by decide) ?_ | refine zsm_I (by decide) ?_ | refine zsm_J ?_ | refine zsm_c (by assumption) (by decide) ?_), ⟨by omega, fun q => by first | (exfalso; omega) | exact ⟨(by repeat (first | assumption | refine TI_I (by decide) ?_ | refine TI_sm (by assumption) (by decide) ?_)), (by first | omega | (simp only [zuI_1, zuI_2, zuJ_1, zuJ_2, zuJ_3, zuP_1, zuP_2, zuP_3, zuC_1, zuC_2, reduceIte, Nat.reduceEqDiff, false_and, and_false, true_and, and_true, and_self, or_true, true_or, or_false, false_or]; omega))⟩⟩⟩

set_option maxHeartbeats 4000000 in
set_option maxRecDepth 100000 in
theorem c_X9_newName70 {l : Launch} {Γ : zΓ} {G : zH} {w a : Nat} {b n : Int} (hX : zXs Γ) (hT : TI w G) (hn : 0 ≤ b ∧ 0 ≤ n ∧ b + n < 6) : zMet l Γ yX9_newName cX9_newName 4 (some .boolean) 2 [zr 10 w, zr 70 a, zi b, zi n] G (zpi (fun x G' => zsm [2070, 1007, 1008, 1009, 1010, 1004, 1005] G G' ∧ ((x = 0 ∨ x = 1) ∧ (x = 1 → TI w G' ∧ G.1 1010 w 0 < G'.1 1010 w 0)))) := by
  have t1 := hT.1
  have t3 := hT.2.2.1
  refine zMet_of RX9 hX (by decide) rfl (Nat.le_of_ble_eq_true rfl) ?_
  intro p e s m args below meth c C hr hlk
  show Z p l e (zrm 2) s m args below meth c Γ 4 0 0 (MQ below (zQc Γ (zpi (fun x G' => zsm [2070, 1007, 1008, 1009, 1010, 1004, 1005] G G' ∧ ((x = 0 ∨ x = 1) ∧ (x = 1 → TI w G' ∧ G.1 1010 w 0 < G'.1 1010 w 0))))) args s 0 0 (zA Γ)) 0 [some (zr 10 w), some (zr 70 a), some (zi b), some (zi n)] [] G
  refine zs_loc 2 rfl (fun ha2 hb2 => ?_)
  refine zs_loc 3 rfl (fun ha3 hb3 => ?_)
  refine zs_aload_n (pc := 0) C dX9_newName_0 rfl ?_
  refine zs_geti (r := 1008) (pc := 1) C dX9_newName_1 w_X9_196 f_10_8 rfl (r_1008 0) (fun v1 e1 l1 u1 => ?_)
  refine zs_iconst (pc := 4) C dX9_newName_4 (by decide) ?_
  refine zs_icmp_eq (tgt := 14) (pc := 5) C dX9_newName_5 (by decide) (fun h5 => ?_) (fun h5 => ?_)
  · skip
    refine zs_aload_n (pc := 14) C dX9_newName_14 rfl ?_
    refine zs_iload_n (pc := 15) C dX9_newName_15 rfl ?_
    refine zs_iload_n (pc := 16) C dX9_newName_16 rfl ?_
    refine zs_aload_n (pc := 17) C dX9_newName_17 rfl ?_
    refine zs_geti (r := 1009) (pc := 18) C dX9_newName_18 w_X9_207 f_10_9 rfl (r_1009 0) (fun v18 e18 l18 u18 => ?_)
    refine zSip4 (pc := 21) C dX9_newName_21 s_X9_280 (c_X9_find hX a_70 (by decide) (by decide) (by omega)) (by decide) ⟨Nat.zero_le _, Nat.zero_le _⟩ (Nat.le_of_ble_eq_true rfl) (fun x21 l21 u21 hp21 => ?_)
    have hq21 := hp21
    refine zs_if_lt (tgt := 33) (pc := 24) C dX9_newName_24 (by decide) (fun h24 => ?_) (fun h24 => ?_)
    · skip
      refine zs_aload_n (pc := 33) C dX9_newName_33 rfl ?_
      refine zs_iload_n (pc := 34) C dX9_newName_34 rfl ?_
      refine zs_iload_n (pc := 35) C dX9_newName_35 rfl ?_
      first | refine zs_iadd (pc := 36) C dX9_newName_36 (by omega) ?_ | refine zs_iaddF (pc := 36) C dX9_newName_36 (fun z36 hz361 hz362 => ?_)
      refine zs_aload_n (pc := 37) C dX9_newName_37 rfl ?_
      refine zs_geti (r := 1009) (pc := 38) C dX9_newName_38 w_X9_207 f_10_9 rfl (r_1009 0) (fun v38 e38 l38 u38 => ?_)
      refine zs_iast (r := 2070) (pc := 41) C dX9_newName_41 a_70 (by decide) (by omega) rfl (r_2070 _) (by omega) ?_
      refine zs_aload_n (pc := 42) C dX9_newName_42 rfl ?_
      refine zVv0 (pc := 43) C dX9_newName_43 v_X9_230 (c_X9_token hX (by first | omega | (simp only [zuI_1, zuI_2, zuJ_1, zuJ_2, zuJ_3, zuP_1, zuP_2, zuP_3, zuC_1, zuC_2, reduceIte, Nat.reduceEqDiff, false_and, and_false, true_and, and_true, and_self, or_true, true_or, or_false, false_or]; omega))) (by decide) (by decide) ⟨Nat.zero_le _, Nat.zero_le _⟩ (Nat.le_of_ble_eq_true rfl) (fun G43 hp43 => ?_)
      obtain ⟨hz43, hq43⟩ := hp43
      try simp only [zuI_1, zuI_2, zuJ_1, zuJ_2, zuJ_3, zuP_1, zuP_2, zuP_3, zuC_1, zuC_2, reduceIte, Nat.reduceEqDiff, false_and, and_false, true_and, and_true, and_self, or_true, true_or, or_false, false_or] at hq43
      have tr43_1006 := zsm_at hz43 1006 w 0 (by decide)
      try simp only [zuI_1, zuI_2, zuJ_1, zuJ_2, zuJ_3, zuP_1, zuP_2, zuP_3, zuC_1, zuC_2, reduceIte, Nat.reduceEqDiff, false_and, and_false, true_and, and_true, and_self, or_true, true_or, or_false, false_or] at tr43_1006
      have hTI := hq43.1
      refine zs_iconst (pc := 46) C dX9_newName_46 (by decide) ?_
      exact zs_zret (pc := 47) C hr hlk dX9_newName_47 (by omega) ⟨by repeat (first | exact zsm_rf | assumption | refine zsm_C (by decide) ?_ | refine zsm_I (by decide) ?_ | refine zsm_J ?_ | refine zsm_c (by assumption) (by decide) ?_), ⟨by omega, fun q => by first | (exfalso; omega) | exact ⟨(by repeat (first | assumption | refine TI_I (by decide) ?_ | refine TI_sm (by assumption) (by decide) ?_)), (by first | omega | (simp only [zuI_1, zuI_2, zuJ_1, zuJ_2, zuJ_3, zuP_1, zuP_2, zuP_3, zuC_1, zuC_2, reduceIte, Nat.reduceEqDiff, false_and, and_false, true_and, and_true, and_self, or_true, true_or, or_false, false_or]; omega))⟩⟩⟩
    · skip
      refine zs_aload_n (pc := 27) C dX9_newName_27 rfl ?_
      refine zs_iconst (pc := 28) C dX9_newName_28 (by decide) ?_
      refine zVi1 (pc := 29) C dX9_newName_29 v_X9_220 (c_X9_wrong hX ) (by decide) (by decide) ⟨Nat.zero_le _, Nat.zero_le _⟩ (Nat.le_of_ble_eq_true rfl) (fun x29 G29 l29 u29 hp29 => ?_)
      obtain ⟨hz29, hq29⟩ := hp29
      have tr29_1007 := zsm_at hz29 1007 w 0 (by decide)
      try simp only [zuI_1, zuI_2, zuJ_1, zuJ_2, zuJ_3, zuP_1, zuP_2, zuP_3, zuC_1, zuC_2, reduceIte, Nat.reduceEqDiff, false_and, and_false, true_and, and_true, and_self, or_true, true_or, or_false, false_or] at tr29_1007
      have tr29_1010 := zsm_at hz29 1010 w 0 (by decide)
      try simp only [zuI_1, zuI_2, zuJ_1, zuJ_2, zuJ_3, zuP_1, zuP_2, zuP_3, zuC_1, zuC_2, reduceIte, Nat.reduceEqDiff, false_and, and_false, true_and, and_true, and_self, or_true, true_or, or_false, false_or] at tr29_1010
      have tr29_1006 := zsm_at hz29 1006 w 0 (by decide)
      try simp only [zuI_1, zuI_2, zuJ_1, zuJ_2, zuJ_3, zuP_1, zuP_2, zuP_3, zuC_1, zuC_2, reduceIte, Nat.reduceEqDiff, false_and, and_false, true_and, and_true, and_self, or_true, true_or, or_false, false_or] at tr29_1006
      exact zs_zret (pc := 32) C hr hlk dX9_newName_32 (by omega) ⟨by repeat (first | exact zsm_rf | assumption | refine zsm_C (by decide) ?_ | refine zsm_I (by decide) ?_ | refine zsm_J ?_ | refine zsm_c (by assumption) (by decide) ?_), ⟨by omega, fun q => by first | (exfalso; omega) | exact ⟨(by repeat (first | assumption | refine TI_I (by decide) ?_ | refine TI_sm (by assumption) (by decide) ?_)), (by first | omega | (simp only [zuI_1, zuI_2, zuJ_1, zuJ_2, zuJ_3, zuP_1, zuP_2, zuP_3, zuC_1, zuC_2, reduceIte, Nat.reduceEqDiff, false_and, and_false, true_and, and_true, and_self, or_true, true_or, or_false, false_or]; omega))⟩⟩⟩
  · skip
    refine zs_aload_n (pc := 8) C dX9_newName_8 rfl ?_
    refine zs_iconst (pc := 9) C dX9_newName_9 (by decide) ?_
    refine zVi1 (pc := 10) C dX9_newName_10 v_X9_220 (c_X9_wrong hX ) (by decide) (by decide) ⟨Nat.zero_le _, Nat.zero_le _⟩ (Nat.le_of_ble_eq_true rfl) (fun x10 G10 l10 u10 hp10 => ?_)
    obtain ⟨hz10, hq10⟩ := hp10
    have tr10_1007 := zsm_at hz10 1007 w 0 (by decide)
    try simp only [zuI_1, zuI_2, zuJ_1, zuJ_2, zuJ_3, zuP_1, zuP_2, zuP_3, zuC_1, zuC_2, reduceIte, Nat.reduceEqDiff, false_and, and_false, true_and, and_true, and_self, or_true, true_or, or_false, false_or] at tr10_1007
    have tr10_1010 := zsm_at hz10 1010 w 0 (by decide)
    try simp only [zuI_1, zuI_2, zuJ_1, zuJ_2, zuJ_3, zuP_1, zuP_2, zuP_3, zuC_1, zuC_2, reduceIte, Nat.reduceEqDiff, false_and, and_false, true_and, and_true, and_self, or_true, true_or, or_false, false_or] at tr10_1010
    have tr10_1006 := zsm_at hz10 1006 w 0 (by decide)
    try simp only [zuI_1, zuI_2, zuJ_1, zuJ_2, zuJ_3, zuP_1, zuP_2, zuP_3, zuC_1, zuC_2, reduceIte, Nat.reduceEqDiff, false_and, and_false, true_and, and_true, and_self, or_true, true_or, or_false, false_or] at tr10_1006
    exact zs_zret (pc := 13) C hr hlk dX9_newName_13 (by omega) ⟨by repeat (first | exact zsm_rf | assumption | refine zsm_C (by decide) ?_ | refine zsm_I (by decide) ?_ | refine zsm_J ?_ | refine zsm_c (by assumption) (by decide) ?_), ⟨by omega, fun q => by first | (exfalso; omega) | exact ⟨(by repeat (first | assumption | refine TI_I (by decide) ?_ | refine TI_sm (by assumption) (by decide) ?_)), (by first | omega | (simp only [zuI_1, zuI_2, zuJ_1, zuJ_2, zuJ_3, zuP_1, zuP_2, zuP_3, zuC_1, zuC_2, reduceIte, Nat.reduceEqDiff, false_and, and_false, true_and, and_true, and_self, or_true, true_or, or_false, false_or]; omega))⟩⟩⟩

set_option maxHeartbeats 4000000 in
set_option maxRecDepth 100000 in
theorem c_X9_onceLine {l : Launch} {Γ : zΓ} {G : zH} {w : Nat} {k : Int} (hX : zXs Γ) (hT : TI w G) (h1 : G.1 1008 w 0 = 1)(hk : 0 ≤ k ∧ k ≤ 3) : zMet l Γ yX9_onceLine cX9_onceLine 3 (some .boolean) 3 [zr 10 w, zi k] G (zpi (fun x G' => zsm [1007, 1008, 1009, 1010, 1004, 1005, 1011, 2060, 2059] G G' ∧ ((x = 0 ∨ x = 1) ∧ (x = 1 → TI w G' ∧ G.1 1010 w 0 < G'.1 1010 w 0)))) := by
  have t1 := hT.1
  have t3 := hT.2.2.1
  refine zMet_of RX9 hX (by decide) rfl (Nat.le_of_ble_eq_true rfl) ?_
  intro p e s m args below meth c C hr hlk
  show Z p l e (zrm 3) s m args below meth c Γ 3 0 0 (MQ below (zQc Γ (zpi (fun x G' => zsm [1007, 1008, 1009, 1010, 1004, 1005, 1011, 2060, 2059] G G' ∧ ((x = 0 ∨ x = 1) ∧ (x = 1 → TI w G' ∧ G.1 1010 w 0 < G'.1 1010 w 0))))) args s 0 0 (zA Γ)) 0 [some (zr 10 w), some (zi k), none] [] G
  refine zs_loc 1 rfl (fun ha1 hb1 => ?_)
  refine zs_aload_n (pc := 0) C dX9_onceLine_0 rfl ?_
  refine zs_getf (pc := 1) C dX9_onceLine_1 w_X9_23 f_10_23 (by decide) ?_
  refine zs_iload_n (pc := 4) C dX9_onceLine_4 rfl ?_
  refine zs_zald (r := 2060) (pc := 5) C dX9_onceLine_5 a_60 (by decide) (by omega) rfl (r_2060 _) (fun v5 e5 l5 u5 => ?_)
  refine zs_if_eq (tgt := 15) (pc := 6) C dX9_onceLine_6 (by decide) (fun h6 => ?_) (fun h6 => ?_)
  · skip
    refine zs_aload_n (pc := 15) C dX9_onceLine_15 rfl ?_
    refine zs_getf (pc := 16) C dX9_onceLine_16 w_X9_23 f_10_23 (by decide) ?_
    refine zs_iload_n (pc := 19) C dX9_onceLine_19 rfl ?_
    refine zs_iconst (pc := 20) C dX9_onceLine_20 (by decide) ?_
    refine zs_zast (r := 2060) (pc := 21) C dX9_onceLine_21 a_60 (by decide) (by omega) rfl (r_2060 _) (by omega) (by omega) ?_
    refine zs_aload_n (pc := 22) C dX9_onceLine_22 rfl ?_
    refine zVv0 (pc := 23) C dX9_onceLine_23 v_X9_230 (c_X9_token hX (by first | omega | (simp only [zuI_1, zuI_2, zuJ_1, zuJ_2, zuJ_3, zuP_1, zuP_2, zuP_3, zuC_1, zuC_2, reduceIte, Nat.reduceEqDiff, false_and, and_false, true_and, and_true, and_self, or_true, true_or, or_false, false_or]; omega))) (by decide) (by decide) ⟨Nat.zero_le _, Nat.zero_le _⟩ (Nat.le_of_ble_eq_true rfl) (fun G23 hp23 => ?_)
    obtain ⟨hz23, hq23⟩ := hp23
    try simp only [zuI_1, zuI_2, zuJ_1, zuJ_2, zuJ_3, zuP_1, zuP_2, zuP_3, zuC_1, zuC_2, reduceIte, Nat.reduceEqDiff, false_and, and_false, true_and, and_true, and_self, or_true, true_or, or_false, false_or] at hq23
    have tr23_1006 := zsm_at hz23 1006 w 0 (by decide)
    try simp only [zuI_1, zuI_2, zuJ_1, zuJ_2, zuJ_3, zuP_1, zuP_2, zuP_3, zuC_1, zuC_2, reduceIte, Nat.reduceEqDiff, false_and, and_false, true_and, and_true, and_self, or_true, true_or, or_false, false_or] at tr23_1006
    have hTI := hq23.1
    refine zs_iload_n (pc := 26) C dX9_onceLine_26 rfl ?_
    refine zs_if_ne (tgt := 36) (pc := 27) C dX9_onceLine_27 (by decide) (fun h27 => ?_) (fun h27 => ?_)
    · skip
      refine zs_iload_n (pc := 36) C dX9_onceLine_36 rfl ?_
      refine zs_iconst (pc := 37) C dX9_onceLine_37 (by decide) ?_
      refine zs_icmp_ne (tgt := 46) (pc := 38) C dX9_onceLine_38 (by decide) (fun h38 => ?_) (fun h38 => ?_)
      · skip
        refine zs_iload_n (pc := 46) C dX9_onceLine_46 rfl ?_
        refine zs_iconst (pc := 47) C dX9_onceLine_47 (by decide) ?_
        refine zs_icmp_ne (tgt := 57) (pc := 48) C dX9_onceLine_48 (by decide) (fun h48 => ?_) (fun h48 => ?_)
        · skip
          refine zs_ldc (n := 99999) (pc := 57) C dX9_onceLine_57 q_X9_216 (by decide) (by decide) ?_
          refine zs_istore_n (pc := 59) C dX9_onceLine_59 (by decide) ?_
          dsimp only [zset, zclr, znone]
          refine zs_aload_n (pc := 60) C dX9_onceLine_60 rfl ?_
          refine zs_iload_n (pc := 61) C dX9_onceLine_61 rfl ?_
          refine zs_iconst (pc := 62) C dX9_onceLine_62 (by decide) ?_
          refine zs_icmp_ne (tgt := 70) (pc := 63) C dX9_onceLine_63 (by decide) (fun h63 => ?_) (fun h63 => ?_)
          · skip
            refine zs_iconst (pc := 70) C dX9_onceLine_70 (by decide) ?_
            refine zs_iload_n (pc := 71) C dX9_onceLine_71 rfl ?_
            refine zVi2 (pc := 72) C dX9_onceLine_72 v_X9_236 (c_X9_number hX (by repeat (first | assumption | refine TI_I (by decide) ?_ | refine TI_sm (by assumption) (by decide) ?_))) (by decide) (by decide) ⟨Nat.zero_le _, Nat.zero_le _⟩ (Nat.le_of_ble_eq_true rfl) (fun x72 G72 l72 u72 hp72 => ?_)
            obtain ⟨hz72, hq72⟩ := hp72
            have tr72_1006 := zsm_at hz72 1006 w 0 (by decide)
            try simp only [zuI_1, zuI_2, zuJ_1, zuJ_2, zuJ_3, zuP_1, zuP_2, zuP_3, zuC_1, zuC_2, reduceIte, Nat.reduceEqDiff, false_and, and_false, true_and, and_true, and_self, or_true, true_or, or_false, false_or] at tr72_1006
            refine zs_if_ne (tgt := 80) (pc := 75) C dX9_onceLine_75 (by decide) (fun h75 => ?_) (fun h75 => ?_)
            · skip
              have hy := hq72.2 (by omega)
              have hTI2 := hy.2.2.1
              have hoo := rs_2059 (4 + k).toNat
              refine zs_aload_n (pc := 80) C dX9_onceLine_80 rfl ?_
              refine zs_getf (pc := 81) C dX9_onceLine_81 w_X9_20 f_10_22 (by decide) ?_
              refine zs_iconst (pc := 84) C dX9_onceLine_84 (by decide) ?_
              refine zs_iload_n (pc := 85) C dX9_onceLine_85 rfl ?_
              first | refine zs_iadd (pc := 86) C dX9_onceLine_86 (by omega) ?_ | refine zs_iaddF (pc := 86) C dX9_onceLine_86 (fun z86 hz861 hz862 => ?_)
              refine zs_aload_n (pc := 87) C dX9_onceLine_87 rfl ?_
              refine zs_geti (r := 1011) (pc := 88) C dX9_onceLine_88 w_X9_227 f_10_11 rfl (r_1011 0) (fun v88 e88 l88 u88 => ?_)
              refine zs_iast (r := 2059) (pc := 91) C dX9_onceLine_91 a_59 (by decide) (by omega) rfl (show zrg 2059 (4 + k).toNat = ((zrg 2059 (4 + k).toNat).1, (zrg 2059 (4 + k).toNat).2) from rfl) (by omega) ?_
              refine zs_iconst (pc := 92) C dX9_onceLine_92 (by decide) ?_
              exact zs_zret (pc := 93) C hr hlk dX9_onceLine_93 (by omega) ⟨by repeat (first | exact zsm_rf | assumption | refine zsm_C (by decide) ?_ | refine zsm_I (by decide) ?_ | refine zsm_J ?_ | refine zsm_c (by assumption) (by decide) ?_), ⟨by omega, fun q => by first | (exfalso; omega) | exact ⟨(by repeat (first | assumption | refine TI_I (by decide) ?_ | refine TI_sm (by assumption) (by decide) ?_)), (by first | omega | (simp only [zuI_1, zuI_2, zuJ_1, zuJ_2, zuJ_3, zuP_1, zuP_2, zuP_3, zuC_1, zuC_2, reduceIte, Nat.reduceEqDiff, false_and, and_false, true_and, and_true, and_self, or_true, true_or, or_false, false_or]; omega))⟩⟩⟩
            · skip
              refine zs_iconst (pc := 78) C dX9_onceLine_78 (by decide) ?_
              exact zs_zret (pc := 79) C hr hlk dX9_onceLine_79 (by omega) ⟨by repeat (first | exact zsm_rf | assumption | refine zsm_C (by decide) ?_ | refine zsm_I (by decide) ?_ | refine zsm_J ?_ | refine zsm_c (by assumption) (by decide) ?_), ⟨by omega, fun q => by first | (exfalso; omega) | exact ⟨(by repeat (first | assumption | refine TI_I (by decide) ?_ | refine TI_sm (by assumption) (by decide) ?_)), (by first | omega | (simp only [zuI_1, zuI_2, zuJ_1, zuJ_2, zuJ_3, zuP_1, zuP_2, zuP_3, zuC_1, zuC_2, reduceIte, Nat.reduceEqDiff, false_and, and_false, true_and, and_true, and_self, or_true, true_or, or_false, false_or]; omega))⟩⟩⟩
          · skip
            refine zs_iconst (pc := 66) C dX9_onceLine_66 (by decide) ?_
            refine zs_goto (tgt := 71) (pc := 67) C dX9_onceLine_67 (by decide) ?_
            refine zs_iload_n (pc := 71) C dX9_onceLine_71 rfl ?_
            refine zVi2 (pc := 72) C dX9_onceLine_72 v_X9_236 (c_X9_number hX (by repeat (first | assumption | refine TI_I (by decide) ?_ | refine TI_sm (by assumption) (by decide) ?_))) (by decide) (by decide) ⟨Nat.zero_le _, Nat.zero_le _⟩ (Nat.le_of_ble_eq_true rfl) (fun x72 G72 l72 u72 hp72 => ?_)
            obtain ⟨hz72, hq72⟩ := hp72
            have tr72_1006 := zsm_at hz72 1006 w 0 (by decide)
            try simp only [zuI_1, zuI_2, zuJ_1, zuJ_2, zuJ_3, zuP_1, zuP_2, zuP_3, zuC_1, zuC_2, reduceIte, Nat.reduceEqDiff, false_and, and_false, true_and, and_true, and_self, or_true, true_or, or_false, false_or] at tr72_1006
            refine zs_if_ne (tgt := 80) (pc := 75) C dX9_onceLine_75 (by decide) (fun h75 => ?_) (fun h75 => ?_)
            · skip
              have hy := hq72.2 (by omega)
              have hTI2 := hy.2.2.1
              have hoo := rs_2059 (4 + k).toNat
              refine zs_aload_n (pc := 80) C dX9_onceLine_80 rfl ?_
              refine zs_getf (pc := 81) C dX9_onceLine_81 w_X9_20 f_10_22 (by decide) ?_
              refine zs_iconst (pc := 84) C dX9_onceLine_84 (by decide) ?_
              refine zs_iload_n (pc := 85) C dX9_onceLine_85 rfl ?_
              first | refine zs_iadd (pc := 86) C dX9_onceLine_86 (by omega) ?_ | refine zs_iaddF (pc := 86) C dX9_onceLine_86 (fun z86 hz861 hz862 => ?_)
              refine zs_aload_n (pc := 87) C dX9_onceLine_87 rfl ?_
              refine zs_geti (r := 1011) (pc := 88) C dX9_onceLine_88 w_X9_227 f_10_11 rfl (r_1011 0) (fun v88 e88 l88 u88 => ?_)
              refine zs_iast (r := 2059) (pc := 91) C dX9_onceLine_91 a_59 (by decide) (by omega) rfl (show zrg 2059 (4 + k).toNat = ((zrg 2059 (4 + k).toNat).1, (zrg 2059 (4 + k).toNat).2) from rfl) (by omega) ?_
              refine zs_iconst (pc := 92) C dX9_onceLine_92 (by decide) ?_
              exact zs_zret (pc := 93) C hr hlk dX9_onceLine_93 (by omega) ⟨by repeat (first | exact zsm_rf | assumption | refine zsm_C (by decide) ?_ | refine zsm_I (by decide) ?_ | refine zsm_J ?_ | refine zsm_c (by assumption) (by decide) ?_), ⟨by omega, fun q => by first | (exfalso; omega) | exact ⟨(by repeat (first | assumption | refine TI_I (by decide) ?_ | refine TI_sm (by assumption) (by decide) ?_)), (by first | omega | (simp only [zuI_1, zuI_2, zuJ_1, zuJ_2, zuJ_3, zuP_1, zuP_2, zuP_3, zuC_1, zuC_2, reduceIte, Nat.reduceEqDiff, false_and, and_false, true_and, and_true, and_self, or_true, true_or, or_false, false_or]; omega))⟩⟩⟩
            · skip
              refine zs_iconst (pc := 78) C dX9_onceLine_78 (by decide) ?_
              exact zs_zret (pc := 79) C hr hlk dX9_onceLine_79 (by omega) ⟨by repeat (first | exact zsm_rf | assumption | refine zsm_C (by decide) ?_ | refine zsm_I (by decide) ?_ | refine zsm_J ?_ | refine zsm_c (by assumption) (by decide) ?_), ⟨by omega, fun q => by first | (exfalso; omega) | exact ⟨(by repeat (first | assumption | refine TI_I (by decide) ?_ | refine TI_sm (by assumption) (by decide) ?_)), (by first | omega | (simp only [zuI_1, zuI_2, zuJ_1, zuJ_2, zuJ_3, zuP_1, zuP_2, zuP_3, zuC_1, zuC_2, reduceIte, Nat.reduceEqDiff, false_and, and_false, true_and, and_true, and_self, or_true, true_or, or_false, false_or]; omega))⟩⟩⟩
        · skip
          refine zs_sipush (pc := 51) C dX9_onceLine_51 (by decide) (by decide) ?_
          refine zs_goto (tgt := 59) (pc := 54) C dX9_onceLine_54 (by decide) ?_
          refine zs_istore_n (pc := 59) C dX9_onceLine_59 (by decide) ?_
          dsimp only [zset, zclr, znone]
          refine zs_aload_n (pc := 60) C dX9_onceLine_60 rfl ?_
          refine zs_iload_n (pc := 61) C dX9_onceLine_61 rfl ?_
          refine zs_iconst (pc := 62) C dX9_onceLine_62 (by decide) ?_
          refine zs_icmp_ne (tgt := 70) (pc := 63) C dX9_onceLine_63 (by decide) (fun h63 => ?_) (fun h63 => ?_)
          · skip
            refine zs_iconst (pc := 70) C dX9_onceLine_70 (by decide) ?_
            refine zs_iload_n (pc := 71) C dX9_onceLine_71 rfl ?_
            refine zVi2 (pc := 72) C dX9_onceLine_72 v_X9_236 (c_X9_number hX (by repeat (first | assumption | refine TI_I (by decide) ?_ | refine TI_sm (by assumption) (by decide) ?_))) (by decide) (by decide) ⟨Nat.zero_le _, Nat.zero_le _⟩ (Nat.le_of_ble_eq_true rfl) (fun x72 G72 l72 u72 hp72 => ?_)
            obtain ⟨hz72, hq72⟩ := hp72
            have tr72_1006 := zsm_at hz72 1006 w 0 (by decide)
            try simp only [zuI_1, zuI_2, zuJ_1, zuJ_2, zuJ_3, zuP_1, zuP_2, zuP_3, zuC_1, zuC_2, reduceIte, Nat.reduceEqDiff, false_and, and_false, true_and, and_true, and_self, or_true, true_or, or_false, false_or] at tr72_1006
            refine zs_if_ne (tgt := 80) (pc := 75) C dX9_onceLine_75 (by decide) (fun h75 => ?_) (fun h75 => ?_)
            · skip
              have hy := hq72.2 (by omega)
              have hTI2 := hy.2.2.1
              have hoo := rs_2059 (4 + k).toNat
              refine zs_aload_n (pc := 80) C dX9_onceLine_80 rfl ?_
              refine zs_getf (pc := 81) C dX9_onceLine_81 w_X9_20 f_10_22 (by decide) ?_
              refine zs_iconst (pc := 84) C dX9_onceLine_84 (by decide) ?_
              refine zs_iload_n (pc := 85) C dX9_onceLine_85 rfl ?_
              first | refine zs_iadd (pc := 86) C dX9_onceLine_86 (by omega) ?_ | refine zs_iaddF (pc := 86) C dX9_onceLine_86 (fun z86 hz861 hz862 => ?_)
              refine zs_aload_n (pc := 87) C dX9_onceLine_87 rfl ?_
              refine zs_geti (r := 1011) (pc := 88) C dX9_onceLine_88 w_X9_227 f_10_11 rfl (r_1011 0) (fun v88 e88 l88 u88 => ?_)
              refine zs_iast (r := 2059) (pc := 91) C dX9_onceLine_91 a_59 (by decide) (by omega) rfl (show zrg 2059 (4 + k).toNat = ((zrg 2059 (4 + k).toNat).1, (zrg 2059 (4 + k).toNat).2) from rfl) (by omega) ?_
              refine zs_iconst (pc := 92) C dX9_onceLine_92 (by decide) ?_
              exact zs_zret (pc := 93) C hr hlk dX9_onceLine_93 (by omega) ⟨by repeat (first | exact zsm_rf | assumption | refine zsm_C (by decide) ?_ | refine zsm_I (by decide) ?_ | refine zsm_J ?_ | refine zsm_c (by assumption) (by decide) ?_), ⟨by omega, fun q => by first | (exfalso; omega) | exact ⟨(by repeat (first | assumption | refine TI_I (by decide) ?_ | refine TI_sm (by assumption) (by decide) ?_)), (by first | omega | (simp only [zuI_1, zuI_2, zuJ_1, zuJ_2, zuJ_3, zuP_1, zuP_2, zuP_3, zuC_1, zuC_2, reduceIte, Nat.reduceEqDiff, false_and, and_false, true_and, and_true, and_self, or_true, true_or, or_false, false_or]; omega))⟩⟩⟩
            · skip
              refine zs_iconst (pc := 78) C dX9_onceLine_78 (by decide) ?_
              exact zs_zret (pc := 79) C hr hlk dX9_onceLine_79 (by omega) ⟨by repeat (first | exact zsm_rf | assumption | refine zsm_C (by decide) ?_ | refine zsm_I (by decide) ?_ | refine zsm_J ?_ | refine zsm_c (by assumption) (by decide) ?_), ⟨by omega, fun q => by first | (exfalso; omega) | exact ⟨(by repeat (first | assumption | refine TI_I (by decide) ?_ | refine TI_sm (by assumption) (by decide) ?_)), (by first | omega | (simp only [zuI_1, zuI_2, zuJ_1, zuJ_2, zuJ_3, zuP_1, zuP_2, zuP_3, zuC_1, zuC_2, reduceIte, Nat.reduceEqDiff, false_and, and_false, true_and, and_true, and_self, or_true, true_or, or_false, false_or]; omega))⟩⟩⟩
          · skip
            refine zs_iconst (pc := 66) C dX9_onceLine_66 (by decide) ?_
            refine zs_goto (tgt := 71) (pc := 67) C dX9_onceLine_67 (by decide) ?_
            refine zs_iload_n (pc := 71) C dX9_onceLine_71 rfl ?_
            refine zVi2 (pc := 72) C dX9_onceLine_72 v_X9_236 (c_X9_number hX (by repeat (first | assumption | refine TI_I (by decide) ?_ | refine TI_sm (by assumption) (by decide) ?_))) (by decide) (by decide) ⟨Nat.zero_le _, Nat.zero_le _⟩ (Nat.le_of_ble_eq_true rfl) (fun x72 G72 l72 u72 hp72 => ?_)
            obtain ⟨hz72, hq72⟩ := hp72
            have tr72_1006 := zsm_at hz72 1006 w 0 (by decide)
            try simp only [zuI_1, zuI_2, zuJ_1, zuJ_2, zuJ_3, zuP_1, zuP_2, zuP_3, zuC_1, zuC_2, reduceIte, Nat.reduceEqDiff, false_and, and_false, true_and, and_true, and_self, or_true, true_or, or_false, false_or] at tr72_1006
            refine zs_if_ne (tgt := 80) (pc := 75) C dX9_onceLine_75 (by decide) (fun h75 => ?_) (fun h75 => ?_)
            · skip
              have hy := hq72.2 (by omega)
              have hTI2 := hy.2.2.1
              have hoo := rs_2059 (4 + k).toNat
              refine zs_aload_n (pc := 80) C dX9_onceLine_80 rfl ?_
              refine zs_getf (pc := 81) C dX9_onceLine_81 w_X9_20 f_10_22 (by decide) ?_
              refine zs_iconst (pc := 84) C dX9_onceLine_84 (by decide) ?_
              refine zs_iload_n (pc := 85) C dX9_onceLine_85 rfl ?_
              first | refine zs_iadd (pc := 86) C dX9_onceLine_86 (by omega) ?_ | refine zs_iaddF (pc := 86) C dX9_onceLine_86 (fun z86 hz861 hz862 => ?_)
              refine zs_aload_n (pc := 87) C dX9_onceLine_87 rfl ?_
              refine zs_geti (r := 1011) (pc := 88) C dX9_onceLine_88 w_X9_227 f_10_11 rfl (r_1011 0) (fun v88 e88 l88 u88 => ?_)
              refine zs_iast (r := 2059) (pc := 91) C dX9_onceLine_91 a_59 (by decide) (by omega) rfl (show zrg 2059 (4 + k).toNat = ((zrg 2059 (4 + k).toNat).1, (zrg 2059 (4 + k).toNat).2) from rfl) (by omega) ?_
              refine zs_iconst (pc := 92) C dX9_onceLine_92 (by decide) ?_
              exact zs_zret (pc := 93) C hr hlk dX9_onceLine_93 (by omega) ⟨by repeat (first | exact zsm_rf | assumption | refine zsm_C (by decide) ?_ | refine zsm_I (by decide) ?_ | refine zsm_J ?_ | refine zsm_c (by assumption) (by decide) ?_), ⟨by omega, fun q => by first | (exfalso; omega) | exact ⟨(by repeat (first | assumption | refine TI_I (by decide) ?_ | refine TI_sm (by assumption) (by decide) ?_)), (by first | omega | (simp only [zuI_1, zuI_2, zuJ_1, zuJ_2, zuJ_3, zuP_1, zuP_2, zuP_3, zuC_1, zuC_2, reduceIte, Nat.reduceEqDiff, false_and, and_false, true_and, and_true, and_self, or_true, true_or, or_false, false_or]; omega))⟩⟩⟩
            · skip
              refine zs_iconst (pc := 78) C dX9_onceLine_78 (by decide) ?_
              exact zs_zret (pc := 79) C hr hlk dX9_onceLine_79 (by omega) ⟨by repeat (first | exact zsm_rf | assumption | refine zsm_C (by decide) ?_ | refine zsm_I (by decide) ?_ | refine zsm_J ?_ | refine zsm_c (by assumption) (by decide) ?_), ⟨by omega, fun q => by first | (exfalso; omega) | exact ⟨(by repeat (first | assumption | refine TI_I (by decide) ?_ | refine TI_sm (by assumption) (by decide) ?_)), (by first | omega | (simp only [zuI_1, zuI_2, zuJ_1, zuJ_2, zuJ_3, zuP_1, zuP_2, zuP_3, zuC_1, zuC_2, reduceIte, Nat.reduceEqDiff, false_and, and_false, true_and, and_true, and_self, or_true, true_or, or_false, false_or]; omega))⟩⟩⟩
      · skip
        refine zs_bipush (pc := 41) C dX9_onceLine_41 (by decide) (by decide) ?_
        refine zs_goto (tgt := 59) (pc := 43) C dX9_onceLine_43 (by decide) ?_
        refine zs_istore_n (pc := 59) C dX9_onceLine_59 (by decide) ?_
        dsimp only [zset, zclr, znone]
        refine zs_aload_n (pc := 60) C dX9_onceLine_60 rfl ?_
        refine zs_iload_n (pc := 61) C dX9_onceLine_61 rfl ?_
        refine zs_iconst (pc := 62) C dX9_onceLine_62 (by decide) ?_
        refine zs_icmp_ne (tgt := 70) (pc := 63) C dX9_onceLine_63 (by decide) (fun h63 => ?_) (fun h63 => ?_)
        · skip
          refine zs_iconst (pc := 70) C dX9_onceLine_70 (by decide) ?_
          refine zs_iload_n (pc := 71) C dX9_onceLine_71 rfl ?_
          refine zVi2 (pc := 72) C dX9_onceLine_72 v_X9_236 (c_X9_number hX (by repeat (first | assumption | refine TI_I (by decide) ?_ | refine TI_sm (by assumption) (by decide) ?_))) (by decide) (by decide) ⟨Nat.zero_le _, Nat.zero_le _⟩ (Nat.le_of_ble_eq_true rfl) (fun x72 G72 l72 u72 hp72 => ?_)
          obtain ⟨hz72, hq72⟩ := hp72
          have tr72_1006 := zsm_at hz72 1006 w 0 (by decide)
          try simp only [zuI_1, zuI_2, zuJ_1, zuJ_2, zuJ_3, zuP_1, zuP_2, zuP_3, zuC_1, zuC_2, reduceIte, Nat.reduceEqDiff, false_and, and_false, true_and, and_true, and_self, or_true, true_or, or_false, false_or] at tr72_1006
          refine zs_if_ne (tgt := 80) (pc := 75) C dX9_onceLine_75 (by decide) (fun h75 => ?_) (fun h75 => ?_)
          · skip
            have hy := hq72.2 (by omega)
            have hTI2 := hy.2.2.1
            have hoo := rs_2059 (4 + k).toNat
            refine zs_aload_n (pc := 80) C dX9_onceLine_80 rfl ?_
            refine zs_getf (pc := 81) C dX9_onceLine_81 w_X9_20 f_10_22 (by decide) ?_
            refine zs_iconst (pc := 84) C dX9_onceLine_84 (by decide) ?_
            refine zs_iload_n (pc := 85) C dX9_onceLine_85 rfl ?_
            first | refine zs_iadd (pc := 86) C dX9_onceLine_86 (by omega) ?_ | refine zs_iaddF (pc := 86) C dX9_onceLine_86 (fun z86 hz861 hz862 => ?_)
            refine zs_aload_n (pc := 87) C dX9_onceLine_87 rfl ?_
            refine zs_geti (r := 1011) (pc := 88) C dX9_onceLine_88 w_X9_227 f_10_11 rfl (r_1011 0) (fun v88 e88 l88 u88 => ?_)
            refine zs_iast (r := 2059) (pc := 91) C dX9_onceLine_91 a_59 (by decide) (by omega) rfl (show zrg 2059 (4 + k).toNat = ((zrg 2059 (4 + k).toNat).1, (zrg 2059 (4 + k).toNat).2) from rfl) (by omega) ?_
            refine zs_iconst (pc := 92) C dX9_onceLine_92 (by decide) ?_
            exact zs_zret (pc := 93) C hr hlk dX9_onceLine_93 (by omega) ⟨by repeat (first | exact zsm_rf | assumption | refine zsm_C (by decide) ?_ | refine zsm_I (by decide) ?_ | refine zsm_J ?_ | refine zsm_c (by assumption) (by decide) ?_), ⟨by omega, fun q => by first | (exfalso; omega) | exact ⟨(by repeat (first | assumption | refine TI_I (by decide) ?_ | refine TI_sm (by assumption) (by decide) ?_)), (by first | omega | (simp only [zuI_1, zuI_2, zuJ_1, zuJ_2, zuJ_3, zuP_1, zuP_2, zuP_3, zuC_1, zuC_2, reduceIte, Nat.reduceEqDiff, false_and, and_false, true_and, and_true, and_self, or_true, true_or, or_false, false_or]; omega))⟩⟩⟩
          · skip
            refine zs_iconst (pc := 78) C dX9_onceLine_78 (by decide) ?_
            exact zs_zret (pc := 79) C hr hlk dX9_onceLine_79 (by omega) ⟨by repeat (first | exact zsm_rf | assumption | refine zsm_C (by decide) ?_ | refine zsm_I (by decide) ?_ | refine zsm_J ?_ | refine zsm_c (by assumption) (by decide) ?_), ⟨by omega, fun q => by first | (exfalso; omega) | exact ⟨(by repeat (first | assumption | refine TI_I (by decide) ?_ | refine TI_sm (by assumption) (by decide) ?_)), (by first | omega | (simp only [zuI_1, zuI_2, zuJ_1, zuJ_2, zuJ_3, zuP_1, zuP_2, zuP_3, zuC_1, zuC_2, reduceIte, Nat.reduceEqDiff, false_and, and_false, true_and, and_true, and_self, or_true, true_or, or_false, false_or]; omega))⟩⟩⟩
        · skip
          refine zs_iconst (pc := 66) C dX9_onceLine_66 (by decide) ?_
          refine zs_goto (tgt := 71) (pc := 67) C dX9_onceLine_67 (by decide) ?_
          refine zs_iload_n (pc := 71) C dX9_onceLine_71 rfl ?_
          refine zVi2 (pc := 72) C dX9_onceLine_72 v_X9_236 (c_X9_number hX (by repeat (first | assumption | refine TI_I (by decide) ?_ | refine TI_sm (by assumption) (by decide) ?_))) (by decide) (by decide) ⟨Nat.zero_le _, Nat.zero_le _⟩ (Nat.le_of_ble_eq_true rfl) (fun x72 G72 l72 u72 hp72 => ?_)
          obtain ⟨hz72, hq72⟩ := hp72
          have tr72_1006 := zsm_at hz72 1006 w 0 (by decide)
          try simp only [zuI_1, zuI_2, zuJ_1, zuJ_2, zuJ_3, zuP_1, zuP_2, zuP_3, zuC_1, zuC_2, reduceIte, Nat.reduceEqDiff, false_and, and_false, true_and, and_true, and_self, or_true, true_or, or_false, false_or] at tr72_1006
          refine zs_if_ne (tgt := 80) (pc := 75) C dX9_onceLine_75 (by decide) (fun h75 => ?_) (fun h75 => ?_)
          · skip
            have hy := hq72.2 (by omega)
            have hTI2 := hy.2.2.1
            have hoo := rs_2059 (4 + k).toNat
            refine zs_aload_n (pc := 80) C dX9_onceLine_80 rfl ?_
            refine zs_getf (pc := 81) C dX9_onceLine_81 w_X9_20 f_10_22 (by decide) ?_
            refine zs_iconst (pc := 84) C dX9_onceLine_84 (by decide) ?_
            refine zs_iload_n (pc := 85) C dX9_onceLine_85 rfl ?_
            first | refine zs_iadd (pc := 86) C dX9_onceLine_86 (by omega) ?_ | refine zs_iaddF (pc := 86) C dX9_onceLine_86 (fun z86 hz861 hz862 => ?_)
            refine zs_aload_n (pc := 87) C dX9_onceLine_87 rfl ?_
            refine zs_geti (r := 1011) (pc := 88) C dX9_onceLine_88 w_X9_227 f_10_11 rfl (r_1011 0) (fun v88 e88 l88 u88 => ?_)
            refine zs_iast (r := 2059) (pc := 91) C dX9_onceLine_91 a_59 (by decide) (by omega) rfl (show zrg 2059 (4 + k).toNat = ((zrg 2059 (4 + k).toNat).1, (zrg 2059 (4 + k).toNat).2) from rfl) (by omega) ?_
            refine zs_iconst (pc := 92) C dX9_onceLine_92 (by decide) ?_
            exact zs_zret (pc := 93) C hr hlk dX9_onceLine_93 (by omega) ⟨by repeat (first | exact zsm_rf | assumption | refine zsm_C (by decide) ?_ | refine zsm_I (by decide) ?_ | refine zsm_J ?_ | refine zsm_c (by assumption) (by decide) ?_), ⟨by omega, fun q => by first | (exfalso; omega) | exact ⟨(by repeat (first | assumption | refine TI_I (by decide) ?_ | refine TI_sm (by assumption) (by decide) ?_)), (by first | omega | (simp only [zuI_1, zuI_2, zuJ_1, zuJ_2, zuJ_3, zuP_1, zuP_2, zuP_3, zuC_1, zuC_2, reduceIte, Nat.reduceEqDiff, false_and, and_false, true_and, and_true, and_self, or_true, true_or, or_false, false_or]; omega))⟩⟩⟩
          · skip
            refine zs_iconst (pc := 78) C dX9_onceLine_78 (by decide) ?_
            exact zs_zret (pc := 79) C hr hlk dX9_onceLine_79 (by omega) ⟨by repeat (first | exact zsm_rf | assumption | refine zsm_C (by decide) ?_ | refine zsm_I (by decide) ?_ | refine zsm_J ?_ | refine zsm_c (by assumption) (by decide) ?_), ⟨by omega, fun q => by first | (exfalso; omega) | exact ⟨(by repeat (first | assumption | refine TI_I (by decide) ?_ | refine TI_sm (by assumption) (by decide) ?_)), (by first | omega | (simp only [zuI_1, zuI_2, zuJ_1, zuJ_2, zuJ_3, zuP_1, zuP_2, zuP_3, zuC_1, zuC_2, reduceIte, Nat.reduceEqDiff, false_and, and_false, true_and, and_true, and_self, or_true, true_or, or_false, false_or]; omega))⟩⟩⟩
    · skip
      refine zs_sipush (pc := 30) C dX9_onceLine_30 (by decide) (by decide) ?_
      refine zs_goto (tgt := 59) (pc := 33) C dX9_onceLine_33 (by decide) ?_
      refine zs_istore_n (pc := 59) C dX9_onceLine_59 (by decide) ?_
      dsimp only [zset, zclr, znone]
      refine zs_aload_n (pc := 60) C dX9_onceLine_60 rfl ?_
      refine zs_iload_n (pc := 61) C dX9_onceLine_61 rfl ?_
      refine zs_iconst (pc := 62) C dX9_onceLine_62 (by decide) ?_
      refine zs_icmp_ne (tgt := 70) (pc := 63) C dX9_onceLine_63 (by decide) (fun h63 => ?_) (fun h63 => ?_)
      · skip
        refine zs_iconst (pc := 70) C dX9_onceLine_70 (by decide) ?_
        refine zs_iload_n (pc := 71) C dX9_onceLine_71 rfl ?_
        refine zVi2 (pc := 72) C dX9_onceLine_72 v_X9_236 (c_X9_number hX (by repeat (first | assumption | refine TI_I (by decide) ?_ | refine TI_sm (by assumption) (by decide) ?_))) (by decide) (by decide) ⟨Nat.zero_le _, Nat.zero_le _⟩ (Nat.le_of_ble_eq_true rfl) (fun x72 G72 l72 u72 hp72 => ?_)
        obtain ⟨hz72, hq72⟩ := hp72
        have tr72_1006 := zsm_at hz72 1006 w 0 (by decide)
        try simp only [zuI_1, zuI_2, zuJ_1, zuJ_2, zuJ_3, zuP_1, zuP_2, zuP_3, zuC_1, zuC_2, reduceIte, Nat.reduceEqDiff, false_and, and_false, true_and, and_true, and_self, or_true, true_or, or_false, false_or] at tr72_1006
        refine zs_if_ne (tgt := 80) (pc := 75) C dX9_onceLine_75 (by decide) (fun h75 => ?_) (fun h75 => ?_)
        · skip
          have hy := hq72.2 (by omega)
          have hTI2 := hy.2.2.1
          have hoo := rs_2059 (4 + k).toNat
          refine zs_aload_n (pc := 80) C dX9_onceLine_80 rfl ?_
          refine zs_getf (pc := 81) C dX9_onceLine_81 w_X9_20 f_10_22 (by decide) ?_
          refine zs_iconst (pc := 84) C dX9_onceLine_84 (by decide) ?_
          refine zs_iload_n (pc := 85) C dX9_onceLine_85 rfl ?_
          first | refine zs_iadd (pc := 86) C dX9_onceLine_86 (by omega) ?_ | refine zs_iaddF (pc := 86) C dX9_onceLine_86 (fun z86 hz861 hz862 => ?_)
          refine zs_aload_n (pc := 87) C dX9_onceLine_87 rfl ?_
          refine zs_geti (r := 1011) (pc := 88) C dX9_onceLine_88 w_X9_227 f_10_11 rfl (r_1011 0) (fun v88 e88 l88 u88 => ?_)
          refine zs_iast (r := 2059) (pc := 91) C dX9_onceLine_91 a_59 (by decide) (by omega) rfl (show zrg 2059 (4 + k).toNat = ((zrg 2059 (4 + k).toNat).1, (zrg 2059 (4 + k).toNat).2) from rfl) (by omega) ?_
          refine zs_iconst (pc := 92) C dX9_onceLine_92 (by decide) ?_
          exact zs_zret (pc := 93) C hr hlk dX9_onceLine_93 (by omega) ⟨by repeat (first | exact zsm_rf | assumption | refine zsm_C (by decide) ?_ | refine zsm_I (by decide) ?_ | refine zsm_J ?_ | refine zsm_c (by assumption) (by decide) ?_), ⟨by omega, fun q => by first | (exfalso; omega) | exact ⟨(by repeat (first | assumption | refine TI_I (by decide) ?_ | refine TI_sm (by assumption) (by decide) ?_)), (by first | omega | (simp only [zuI_1, zuI_2, zuJ_1, zuJ_2, zuJ_3, zuP_1, zuP_2, zuP_3, zuC_1, zuC_2, reduceIte, Nat.reduceEqDiff, false_and, and_false, true_and, and_true, and_self, or_true, true_or, or_false, false_or]; omega))⟩⟩⟩
        · skip
          refine zs_iconst (pc := 78) C dX9_onceLine_78 (by decide) ?_
          exact zs_zret (pc := 79) C hr hlk dX9_onceLine_79 (by omega) ⟨by repeat (first | exact zsm_rf | assumption | refine zsm_C (by decide) ?_ | refine zsm_I (by decide) ?_ | refine zsm_J ?_ | refine zsm_c (by assumption) (by decide) ?_), ⟨by omega, fun q => by first | (exfalso; omega) | exact ⟨(by repeat (first | assumption | refine TI_I (by decide) ?_ | refine TI_sm (by assumption) (by decide) ?_)), (by first | omega | (simp only [zuI_1, zuI_2, zuJ_1, zuJ_2, zuJ_3, zuP_1, zuP_2, zuP_3, zuC_1, zuC_2, reduceIte, Nat.reduceEqDiff, false_and, and_false, true_and, and_true, and_self, or_true, true_or, or_false, false_or]; omega))⟩⟩⟩
      · skip
        refine zs_iconst (pc := 66) C dX9_onceLine_66 (by decide) ?_
        refine zs_goto (tgt := 71) (pc := 67) C dX9_onceLine_67 (by decide) ?_
        refine zs_iload_n (pc := 71) C dX9_onceLine_71 rfl ?_
        refine zVi2 (pc := 72) C dX9_onceLine_72 v_X9_236 (c_X9_number hX (by repeat (first | assumption | refine TI_I (by decide) ?_ | refine TI_sm (by assumption) (by decide) ?_))) (by decide) (by decide) ⟨Nat.zero_le _, Nat.zero_le _⟩ (Nat.le_of_ble_eq_true rfl) (fun x72 G72 l72 u72 hp72 => ?_)
        obtain ⟨hz72, hq72⟩ := hp72
        have tr72_1006 := zsm_at hz72 1006 w 0 (by decide)
        try simp only [zuI_1, zuI_2, zuJ_1, zuJ_2, zuJ_3, zuP_1, zuP_2, zuP_3, zuC_1, zuC_2, reduceIte, Nat.reduceEqDiff, false_and, and_false, true_and, and_true, and_self, or_true, true_or, or_false, false_or] at tr72_1006
        refine zs_if_ne (tgt := 80) (pc := 75) C dX9_onceLine_75 (by decide) (fun h75 => ?_) (fun h75 => ?_)
        · skip
          have hy := hq72.2 (by omega)
          have hTI2 := hy.2.2.1
          have hoo := rs_2059 (4 + k).toNat
          refine zs_aload_n (pc := 80) C dX9_onceLine_80 rfl ?_
          refine zs_getf (pc := 81) C dX9_onceLine_81 w_X9_20 f_10_22 (by decide) ?_
          refine zs_iconst (pc := 84) C dX9_onceLine_84 (by decide) ?_
          refine zs_iload_n (pc := 85) C dX9_onceLine_85 rfl ?_
          first | refine zs_iadd (pc := 86) C dX9_onceLine_86 (by omega) ?_ | refine zs_iaddF (pc := 86) C dX9_onceLine_86 (fun z86 hz861 hz862 => ?_)
          refine zs_aload_n (pc := 87) C dX9_onceLine_87 rfl ?_
          refine zs_geti (r := 1011) (pc := 88) C dX9_onceLine_88 w_X9_227 f_10_11 rfl (r_1011 0) (fun v88 e88 l88 u88 => ?_)
          refine zs_iast (r := 2059) (pc := 91) C dX9_onceLine_91 a_59 (by decide) (by omega) rfl (show zrg 2059 (4 + k).toNat = ((zrg 2059 (4 + k).toNat).1, (zrg 2059 (4 + k).toNat).2) from rfl) (by omega) ?_
          refine zs_iconst (pc := 92) C dX9_onceLine_92 (by decide) ?_
          exact zs_zret (pc := 93) C hr hlk dX9_onceLine_93 (by omega) ⟨by repeat (first | exact zsm_rf | assumption | refine zsm_C (by decide) ?_ | refine zsm_I (by decide) ?_ | refine zsm_J ?_ | refine zsm_c (by assumption) (by decide) ?_), ⟨by omega, fun q => by first | (exfalso; omega) | exact ⟨(by repeat (first | assumption | refine TI_I (by decide) ?_ | refine TI_sm (by assumption) (by decide) ?_)), (by first | omega | (simp only [zuI_1, zuI_2, zuJ_1, zuJ_2, zuJ_3, zuP_1, zuP_2, zuP_3, zuC_1, zuC_2, reduceIte, Nat.reduceEqDiff, false_and, and_false, true_and, and_true, and_self, or_true, true_or, or_false, false_or]; omega))⟩⟩⟩
        · skip
          refine zs_iconst (pc := 78) C dX9_onceLine_78 (by decide) ?_
          exact zs_zret (pc := 79) C hr hlk dX9_onceLine_79 (by omega) ⟨by repeat (first | exact zsm_rf | assumption | refine zsm_C (by decide) ?_ | refine zsm_I (by decide) ?_ | refine zsm_J ?_ | refine zsm_c (by assumption) (by decide) ?_), ⟨by omega, fun q => by first | (exfalso; omega) | exact ⟨(by repeat (first | assumption | refine TI_I (by decide) ?_ | refine TI_sm (by assumption) (by decide) ?_)), (by first | omega | (simp only [zuI_1, zuI_2, zuJ_1, zuJ_2, zuJ_3, zuP_1, zuP_2, zuP_3, zuC_1, zuC_2, reduceIte, Nat.reduceEqDiff, false_and, and_false, true_and, and_true, and_self, or_true, true_or, or_false, false_or]; omega))⟩⟩⟩
  · skip
    refine zs_aload_n (pc := 9) C dX9_onceLine_9 rfl ?_
    refine zs_iconst (pc := 10) C dX9_onceLine_10 (by decide) ?_
    refine zVi1 (pc := 11) C dX9_onceLine_11 v_X9_220 (c_X9_wrong hX ) (by decide) (by decide) ⟨Nat.zero_le _, Nat.zero_le _⟩ (Nat.le_of_ble_eq_true rfl) (fun x11 G11 l11 u11 hp11 => ?_)
    obtain ⟨hz11, hq11⟩ := hp11
    have tr11_1007 := zsm_at hz11 1007 w 0 (by decide)
    try simp only [zuI_1, zuI_2, zuJ_1, zuJ_2, zuJ_3, zuP_1, zuP_2, zuP_3, zuC_1, zuC_2, reduceIte, Nat.reduceEqDiff, false_and, and_false, true_and, and_true, and_self, or_true, true_or, or_false, false_or] at tr11_1007
    have tr11_1010 := zsm_at hz11 1010 w 0 (by decide)
    try simp only [zuI_1, zuI_2, zuJ_1, zuJ_2, zuJ_3, zuP_1, zuP_2, zuP_3, zuC_1, zuC_2, reduceIte, Nat.reduceEqDiff, false_and, and_false, true_and, and_true, and_self, or_true, true_or, or_false, false_or] at tr11_1010
    have tr11_1006 := zsm_at hz11 1006 w 0 (by decide)
    try simp only [zuI_1, zuI_2, zuJ_1, zuJ_2, zuJ_3, zuP_1, zuP_2, zuP_3, zuC_1, zuC_2, reduceIte, Nat.reduceEqDiff, false_and, and_false, true_and, and_true, and_self, or_true, true_or, or_false, false_or] at tr11_1006
    exact zs_zret (pc := 14) C hr hlk dX9_onceLine_14 (by omega) ⟨by repeat (first | exact zsm_rf | assumption | refine zsm_C (by decide) ?_ | refine zsm_I (by decide) ?_ | refine zsm_J ?_ | refine zsm_c (by assumption) (by decide) ?_), ⟨by omega, fun q => by first | (exfalso; omega) | exact ⟨(by repeat (first | assumption | refine TI_I (by decide) ?_ | refine TI_sm (by assumption) (by decide) ?_)), (by first | omega | (simp only [zuI_1, zuI_2, zuJ_1, zuJ_2, zuJ_3, zuP_1, zuP_2, zuP_3, zuC_1, zuC_2, reduceIte, Nat.reduceEqDiff, false_and, and_false, true_and, and_true, and_self, or_true, true_or, or_false, false_or]; omega))⟩⟩⟩

set_option maxHeartbeats 4000000 in
set_option maxRecDepth 100000 in
theorem c_X9_personLine {l : Launch} {Γ : zΓ} {G : zH} {w : Nat}  (hX : zXs Γ) (hT : TI w G) (h1 : G.1 1008 w 0 = 1) : zMet l Γ yX9_personLine cX9_personLine 3 (some .boolean) 3 [zr 10 w] G (zpi (fun x G' => zsm [1007, 1008, 1009, 1010, 1004, 1005, 1011, 2063, 2064, 2065, 1018] G G' ∧ ((x = 0 ∨ x = 1) ∧ (x = 1 → TI w G' ∧ G.1 1010 w 0 < G'.1 1010 w 0)))) := by
  have t1 := hT.1
  have t3 := hT.2.2.1
  refine zMet_of RX9 hX (by decide) rfl (Nat.le_of_ble_eq_true rfl) ?_
  intro p e s m args below meth c C hr hlk
  show Z p l e (zrm 3) s m args below meth c Γ 3 0 0 (MQ below (zQc Γ (zpi (fun x G' => zsm [1007, 1008, 1009, 1010, 1004, 1005, 1011, 2063, 2064, 2065, 1018] G G' ∧ ((x = 0 ∨ x = 1) ∧ (x = 1 → TI w G' ∧ G.1 1010 w 0 < G'.1 1010 w 0))))) args s 0 0 (zA Γ)) 0 [some (zr 10 w), none, none] [] G
  refine zs_aload_n (pc := 0) C dX9_personLine_0 rfl ?_
  refine zs_geti (r := 1018) (pc := 1) C dX9_personLine_1 w_X9_243 f_10_18 rfl (r_1018 0) (fun v1 e1 l1 u1 => ?_)
  refine zs_iconst (pc := 4) C dX9_personLine_4 (by decide) ?_
  refine zs_icmp_ne (tgt := 14) (pc := 5) C dX9_personLine_5 (by decide) (fun h5 => ?_) (fun h5 => ?_)
  · skip
    refine zs_aload_n (pc := 14) C dX9_personLine_14 rfl ?_
    refine zVv0 (pc := 15) C dX9_personLine_15 v_X9_230 (c_X9_token hX (by omega)) (by decide) (by decide) ⟨Nat.zero_le _, Nat.zero_le _⟩ (Nat.le_of_ble_eq_true rfl) (fun G15 hp15 => ?_)
    obtain ⟨hz15, hq15⟩ := hp15
    have tr15_1006 := zsm_at hz15 1006 w 0 (by decide)
    try simp only [zuI_1, zuI_2, zuJ_1, zuJ_2, zuJ_3, zuP_1, zuP_2, zuP_3, zuC_1, zuC_2, reduceIte, Nat.reduceEqDiff, false_and, and_false, true_and, and_true, and_self, or_true, true_or, or_false, false_or] at tr15_1006
    have tr15_1018 := zsm_at hz15 1018 w 0 (by decide)
    try simp only [zuI_1, zuI_2, zuJ_1, zuJ_2, zuJ_3, zuP_1, zuP_2, zuP_3, zuC_1, zuC_2, reduceIte, Nat.reduceEqDiff, false_and, and_false, true_and, and_true, and_self, or_true, true_or, or_false, false_or] at tr15_1018
    have hTI := hq15.1
    refine zs_iconst (pc := 18) C dX9_personLine_18 (by decide) ?_
    refine zs_aload_n (pc := 19) C dX9_personLine_19 rfl ?_
    refine zs_geti (r := 1018) (pc := 20) C dX9_personLine_20 w_X9_243 f_10_18 rfl (r_1018 0) (fun v20 e20 l20 u20 => ?_)
    first | refine zs_iadd (pc := 23) C dX9_personLine_23 (by omega) ?_ | refine zs_iaddF (pc := 23) C dX9_personLine_23 (fun z23 hz231 hz232 => ?_)
    refine zs_istore_n (pc := 24) C dX9_personLine_24 (by decide) ?_
    dsimp only [zset, zclr, znone]
    refine zs_aload_n (pc := 25) C dX9_personLine_25 rfl ?_
    refine zs_aload_n (pc := 26) C dX9_personLine_26 rfl ?_
    refine zs_getf (pc := 27) C dX9_personLine_27 w_X9_33 f_10_26 (by decide) ?_
    refine zs_iconst (pc := 30) C dX9_personLine_30 (by decide) ?_
    refine zs_aload_n (pc := 31) C dX9_personLine_31 rfl ?_
    refine zs_geti (r := 1018) (pc := 32) C dX9_personLine_32 w_X9_243 f_10_18 rfl (r_1018 0) (fun v32 e32 l32 u32 => ?_)
    refine zVi3 (pc := 35) C dX9_personLine_35 v_X9_284 (c_X9_newName63 hX (by repeat (first | assumption | refine TI_I (by decide) ?_ | refine TI_sm (by assumption) (by decide) ?_)) (by omega)) (by decide) (by decide) ⟨Nat.zero_le _, Nat.zero_le _⟩ (Nat.le_of_ble_eq_true rfl) (fun x35 G35 l35 u35 hp35 => ?_)
    obtain ⟨hz35, hq35⟩ := hp35
    have tr35_1006 := zsm_at hz35 1006 w 0 (by decide)
    try simp only [zuI_1, zuI_2, zuJ_1, zuJ_2, zuJ_3, zuP_1, zuP_2, zuP_3, zuC_1, zuC_2, reduceIte, Nat.reduceEqDiff, false_and, and_false, true_and, and_true, and_self, or_true, true_or, or_false, false_or] at tr35_1006
    have tr35_1018 := zsm_at hz35 1018 w 0 (by decide)
    try simp only [zuI_1, zuI_2, zuJ_1, zuJ_2, zuJ_3, zuP_1, zuP_2, zuP_3, zuC_1, zuC_2, reduceIte, Nat.reduceEqDiff, false_and, and_false, true_and, and_true, and_self, or_true, true_or, or_false, false_or] at tr35_1018
    refine zs_if_eq (tgt := 51) (pc := 38) C dX9_personLine_38 (by decide) (fun h38 => ?_) (fun h38 => ?_)
    · skip
      refine zs_iconst (pc := 51) C dX9_personLine_51 (by decide) ?_
      exact zs_zret (pc := 52) C hr hlk dX9_personLine_52 (by omega) ⟨by repeat (first | exact zsm_rf | assumption | refine zsm_C (by decide) ?_ | refine zsm_I (by decide) ?_ | refine zsm_J ?_ | refine zsm_c (by assumption) (by decide) ?_), ⟨by omega, fun q => by first | (exfalso; omega) | exact ⟨(by repeat (first | assumption | refine TI_I (by decide) ?_ | refine TI_sm (by assumption) (by decide) ?_)), (by first | omega | (simp only [zuI_1, zuI_2, zuJ_1, zuJ_2, zuJ_3, zuP_1, zuP_2, zuP_3, zuC_1, zuC_2, reduceIte, Nat.reduceEqDiff, false_and, and_false, true_and, and_true, and_self, or_true, true_or, or_false, false_or]; omega))⟩⟩⟩
    · skip
      refine zs_aload_n (pc := 41) C dX9_personLine_41 rfl ?_
      refine zs_iconst (pc := 42) C dX9_personLine_42 (by decide) ?_
      refine zs_bipush (pc := 43) C dX9_personLine_43 (by decide) (by decide) ?_
      refine zVi2 (pc := 45) C dX9_personLine_45 v_X9_236 (c_X9_number hX (hq35.2 (by omega)).1) (by decide) (by decide) ⟨Nat.zero_le _, Nat.zero_le _⟩ (Nat.le_of_ble_eq_true rfl) (fun x45 G45 l45 u45 hp45 => ?_)
      obtain ⟨hz45, hq45⟩ := hp45
      have tr45_1006 := zsm_at hz45 1006 w 0 (by decide)
      try simp only [zuI_1, zuI_2, zuJ_1, zuJ_2, zuJ_3, zuP_1, zuP_2, zuP_3, zuC_1, zuC_2, reduceIte, Nat.reduceEqDiff, false_and, and_false, true_and, and_true, and_self, or_true, true_or, or_false, false_or] at tr45_1006
      have tr45_1018 := zsm_at hz45 1018 w 0 (by decide)
      try simp only [zuI_1, zuI_2, zuJ_1, zuJ_2, zuJ_3, zuP_1, zuP_2, zuP_3, zuC_1, zuC_2, reduceIte, Nat.reduceEqDiff, false_and, and_false, true_and, and_true, and_self, or_true, true_or, or_false, false_or] at tr45_1018
      refine zs_if_ne (tgt := 53) (pc := 48) C dX9_personLine_48 (by decide) (fun h48 => ?_) (fun h48 => ?_)
      · skip
        have hy := hq45.2 (by omega)
        have hy3 := hy.2.2.1
        have hy2 := (hq35.2 (by omega)).2
        refine zs_aload_n (pc := 53) C dX9_personLine_53 rfl ?_
        refine zs_getf (pc := 54) C dX9_personLine_54 w_X9_36 f_10_27 (by decide) ?_
        refine zs_iload_n (pc := 57) C dX9_personLine_57 rfl ?_
        refine zs_aload_n (pc := 58) C dX9_personLine_58 rfl ?_
        refine zs_geti (r := 1011) (pc := 59) C dX9_personLine_59 w_X9_227 f_10_11 rfl (r_1011 0) (fun v59 e59 l59 u59 => ?_)
        refine zs_iast (r := 2064) (pc := 62) C dX9_personLine_62 a_64 (by decide) (by omega) rfl (r_2064 _) (by omega) ?_
        refine zs_iconst (pc := 63) C dX9_personLine_63 (by decide) ?_
        refine zs_istore_n (pc := 64) C dX9_personLine_64 (by decide) ?_
        dsimp only [zset, zclr, znone]
        have L65 : ∀ (nn : Nat) (x2 : Int) (G1 : zH), (0 ≤ x2 ∧ x2 ≤ 4) → (zsm [1007, 1008, 1009, 1010, 1004, 1005, 1011, 2063, 2064, 2065, 1018] G G1) → (TI w G1) → (G.1 1010 w 0 < G1.1 1010 w 0) → (G1.1 1018 w 0 ≤ 4) → (4 - x2).toNat < nn → Z p l e (zrm 3) s m args below meth c Γ 3 0 0 (MQ below (zQc Γ (zpi (fun x G' => zsm [1007, 1008, 1009, 1010, 1004, 1005, 1011, 2063, 2064, 2065, 1018] G G' ∧ ((x = 0 ∨ x = 1) ∧ (x = 1 → TI w G' ∧ G.1 1010 w 0 < G'.1 1010 w 0))))) args s 0 0 (zA Γ)) 65 [some (zr 10 w), some (zi (5 + v20)), some (zi x2)] [] G1 := by
          intro nn
          induction nn with
          | zero => intro x2 G1 h65_0 h65_1 h65_2 h65_3 h65_4 hm; exact absurd hm (Nat.not_lt_zero _)
          | succ nn ih65 =>
            intro x2 G1 h65_0 h65_1 h65_2 h65_3 h65_4 hm65
            refine zs_iload_n (pc := 65) C dX9_personLine_65 rfl ?_
            refine zs_iconst (pc := 66) C dX9_personLine_66 (by decide) ?_
            refine zs_icmp_ge (tgt := 87) (pc := 67) C dX9_personLine_67 (by decide) (fun h67 => ?_) (fun h67 => ?_)
            · skip
              have L87 : ∀ (nn : Nat) (G2 : zH), (zsm [1007, 1008, 1009, 1010, 1004, 1005, 1011, 2063, 2064, 2065, 1018] G G2) → (TI w G2) → (G.1 1010 w 0 < G2.1 1010 w 0) → (G2.1 1018 w 0 ≤ 4) → (701 - G2.1 1010 w 0).toNat < nn → Z p l e (zrm 3) s m args below meth c Γ 3 0 0 (MQ below (zQc Γ (zpi (fun x G' => zsm [1007, 1008, 1009, 1010, 1004, 1005, 1011, 2063, 2064, 2065, 1018] G G' ∧ ((x = 0 ∨ x = 1) ∧ (x = 1 → TI w G' ∧ G.1 1010 w 0 < G'.1 1010 w 0))))) args s 0 0 (zA Γ)) 87 [some (zr 10 w), some (zi (5 + v20)), none] [] G2 := by
                intro nn
                induction nn with
                | zero => intro G2 h87_0 h87_1 h87_2 h87_3 hm; exact absurd hm (Nat.not_lt_zero _)
                | succ nn ih87 =>
                  intro G2 h87_0 h87_1 h87_2 h87_3 hm87
                  refine zs_good (fun hGdg => ?_)
                  have hbg_1010 := hGdg.1 1010 w 0
                  rw [r_1010] at hbg_1010
                  have hTIa := h87_1
                  have t1a := hTIa.1
                  have t2a := hTIa.2.1
                  have t3a := hTIa.2.2.1
                  refine zs_aload_n (pc := 87) C dX9_personLine_87 rfl ?_
                  refine zs_bipush (pc := 88) C dX9_personLine_88 (by decide) (by decide) ?_
                  refine zVip1 (pc := 90) C dX9_personLine_90 v_X9_288 (c_X9_isKey hX ) (by decide) (by decide) ⟨Nat.zero_le _, Nat.zero_le _⟩ (Nat.le_of_ble_eq_true rfl) (fun x90 l90 u90 hp90 => ?_)
                  have hq90 := hp90
                  refine zs_if_eq (tgt := 193) (pc := 93) C dX9_personLine_93 (by decide) (fun h93 => ?_) (fun h93 => ?_)
                  · skip
                    refine zs_aload_n (pc := 193) C dX9_personLine_193 rfl ?_
                    refine zs_dupa (pc := 194) C dX9_personLine_194 ?_
                    refine zs_geti (r := 1018) (pc := 195) C dX9_personLine_195 w_X9_243 f_10_18 rfl (r_1018 0) (fun v195 e195 l195 u195 => ?_)
                    refine zs_iconst (pc := 198) C dX9_personLine_198 (by decide) ?_
                    first | refine zs_iadd (pc := 199) C dX9_personLine_199 (by omega) ?_ | refine zs_iaddF (pc := 199) C dX9_personLine_199 (fun z199 hz1991 hz1992 => ?_)
                    refine zs_puti (r := 1018) (pc := 200) C dX9_personLine_200 w_X9_243 f_10_18 rfl (r_1018 0) (by omega) ?_
                    refine zs_iconst (pc := 203) C dX9_personLine_203 (by decide) ?_
                    exact zs_zret (pc := 204) C hr hlk dX9_personLine_204 (by omega) ⟨by repeat (first | exact zsm_rf | assumption | refine zsm_C (by decide) ?_ | refine zsm_I (by decide) ?_ | refine zsm_J ?_ | refine zsm_c (by assumption) (by decide) ?_), ⟨by omega, fun q => by first | (exfalso; omega) | exact ⟨(by repeat (first | assumption | refine TI_I (by decide) ?_ | refine TI_sm (by assumption) (by decide) ?_)), (by first | omega | (simp only [zuI_1, zuI_2, zuJ_1, zuJ_2, zuJ_3, zuP_1, zuP_2, zuP_3, zuC_1, zuC_2, reduceIte, Nat.reduceEqDiff, false_and, and_false, true_and, and_true, and_self, or_true, true_or, or_false, false_or]; omega))⟩⟩⟩
                  · skip
                    refine zs_aload_n (pc := 96) C dX9_personLine_96 rfl ?_
                    refine zVv0 (pc := 97) C dX9_personLine_97 v_X9_230 (c_X9_token hX (by omega)) (by decide) (by decide) ⟨Nat.zero_le _, Nat.zero_le _⟩ (Nat.le_of_ble_eq_true rfl) (fun G97 hp97 => ?_)
                    obtain ⟨hz97, hq97⟩ := hp97
                    have tr97_1006 := zsm_at hz97 1006 w 0 (by decide)
                    try simp only [zuI_1, zuI_2, zuJ_1, zuJ_2, zuJ_3, zuP_1, zuP_2, zuP_3, zuC_1, zuC_2, reduceIte, Nat.reduceEqDiff, false_and, and_false, true_and, and_true, and_self, or_true, true_or, or_false, false_or] at tr97_1006
                    have tr97_1018 := zsm_at hz97 1018 w 0 (by decide)
                    try simp only [zuI_1, zuI_2, zuJ_1, zuJ_2, zuJ_3, zuP_1, zuP_2, zuP_3, zuC_1, zuC_2, reduceIte, Nat.reduceEqDiff, false_and, and_false, true_and, and_true, and_self, or_true, true_or, or_false, false_or] at tr97_1018
                    have hTIb := hq97.1
                    have t1b := hTIb.1
                    have t2b := hTIb.2.1
                    have t3b := hTIb.2.2.1
                    refine zs_aload_n (pc := 100) C dX9_personLine_100 rfl ?_
                    refine zs_geti (r := 1008) (pc := 101) C dX9_personLine_101 w_X9_196 f_10_8 rfl (r_1008 0) (fun v101 e101 l101 u101 => ?_)
                    refine zs_iconst (pc := 104) C dX9_personLine_104 (by decide) ?_
                    refine zs_icmp_eq (tgt := 114) (pc := 105) C dX9_personLine_105 (by decide) (fun h105 => ?_) (fun h105 => ?_)
                    · skip
                      refine zs_aload_n (pc := 114) C dX9_personLine_114 rfl ?_
                      refine zs_getf (pc := 115) C dX9_personLine_115 w_X9_27 f_10_24 (by decide) ?_
                      refine zs_iconst (pc := 118) C dX9_personLine_118 (by decide) ?_
                      refine zs_aload_n (pc := 119) C dX9_personLine_119 rfl ?_
                      refine zs_geti (r := 1017) (pc := 120) C dX9_personLine_120 w_X9_240 f_10_17 rfl (r_1017 0) (fun v120 e120 l120 u120 => ?_)
                      refine zs_aload_n (pc := 123) C dX9_personLine_123 rfl ?_
                      refine zs_geti (r := 1009) (pc := 124) C dX9_personLine_124 w_X9_207 f_10_9 rfl (r_1009 0) (fun v124 e124 l124 u124 => ?_)
                      refine zSip4 (pc := 127) C dX9_personLine_127 s_X9_280 (c_X9_find hX a_61 (by decide) (by decide) (by omega)) (by decide) ⟨Nat.zero_le _, Nat.zero_le _⟩ (Nat.le_of_ble_eq_true rfl) (fun x127 l127 u127 hp127 => ?_)
                      have hq127 := hp127
                      refine zs_istore_n (pc := 130) C dX9_personLine_130 (by decide) ?_
                      dsimp only [zset, zclr, znone]
                      refine zs_iload_n (pc := 131) C dX9_personLine_131 rfl ?_
                      refine zs_if_ge (tgt := 141) (pc := 132) C dX9_personLine_132 (by decide) (fun h132 => ?_) (fun h132 => ?_)
                      · skip
                        refine zs_aload_n (pc := 141) C dX9_personLine_141 rfl ?_
                        refine zs_getf (pc := 142) C dX9_personLine_142 w_X9_39 f_10_28 (by decide) ?_
                        refine zs_iconst (pc := 145) C dX9_personLine_145 (by decide) ?_
                        refine zs_iload_n (pc := 146) C dX9_personLine_146 rfl ?_
                        first | refine zs_imul (pc := 147) C dX9_personLine_147 (by omega) ?_ | refine zs_imulF (pc := 147) C dX9_personLine_147 (fun z147 hz1471 hz1472 => ?_)
                        refine zs_iload_n (pc := 148) C dX9_personLine_148 rfl ?_
                        first | refine zs_iadd (pc := 149) C dX9_personLine_149 (by omega) ?_ | refine zs_iaddF (pc := 149) C dX9_personLine_149 (fun z149 hz1491 hz1492 => ?_)
                        refine zs_iald (r := 2065) (pc := 150) C dX9_personLine_150 a_65 (by decide) (by omega) rfl (r_2065 _) (fun v150 e150 l150 u150 => ?_)
                        refine zs_if_le (tgt := 160) (pc := 151) C dX9_personLine_151 (by decide) (fun h151 => ?_) (fun h151 => ?_)
                        · skip
                          refine zs_aload_n (pc := 160) C dX9_personLine_160 rfl ?_
                          refine zVv0 (pc := 161) C dX9_personLine_161 v_X9_230 (c_X9_token hX (by omega)) (by decide) (by decide) ⟨Nat.zero_le _, Nat.zero_le _⟩ (Nat.le_of_ble_eq_true rfl) (fun G161 hp161 => ?_)
                          obtain ⟨hz161, hq161⟩ := hp161
                          have tr161_1006 := zsm_at hz161 1006 w 0 (by decide)
                          try simp only [zuI_1, zuI_2, zuJ_1, zuJ_2, zuJ_3, zuP_1, zuP_2, zuP_3, zuC_1, zuC_2, reduceIte, Nat.reduceEqDiff, false_and, and_false, true_and, and_true, and_self, or_true, true_or, or_false, false_or] at tr161_1006
                          have tr161_1018 := zsm_at hz161 1018 w 0 (by decide)
                          try simp only [zuI_1, zuI_2, zuJ_1, zuJ_2, zuJ_3, zuP_1, zuP_2, zuP_3, zuC_1, zuC_2, reduceIte, Nat.reduceEqDiff, false_and, and_false, true_and, and_true, and_self, or_true, true_or, or_false, false_or] at tr161_1018
                          have hTIc := hq161.1
                          refine zs_aload_n (pc := 164) C dX9_personLine_164 rfl ?_
                          refine zs_iconst (pc := 165) C dX9_personLine_165 (by decide) ?_
                          refine zs_bipush (pc := 166) C dX9_personLine_166 (by decide) (by decide) ?_
                          refine zVi2 (pc := 168) C dX9_personLine_168 v_X9_236 (c_X9_number hX (by repeat (first | assumption | refine TI_I (by decide) ?_ | refine TI_sm (by assumption) (by decide) ?_))) (by decide) (by decide) ⟨Nat.zero_le _, Nat.zero_le _⟩ (Nat.le_of_ble_eq_true rfl) (fun x168 G168 l168 u168 hp168 => ?_)
                          obtain ⟨hz168, hq168⟩ := hp168
                          have tr168_1006 := zsm_at hz168 1006 w 0 (by decide)
                          try simp only [zuI_1, zuI_2, zuJ_1, zuJ_2, zuJ_3, zuP_1, zuP_2, zuP_3, zuC_1, zuC_2, reduceIte, Nat.reduceEqDiff, false_and, and_false, true_and, and_true, and_self, or_true, true_or, or_false, false_or] at tr168_1006
                          have tr168_1018 := zsm_at hz168 1018 w 0 (by decide)
                          try simp only [zuI_1, zuI_2, zuJ_1, zuJ_2, zuJ_3, zuP_1, zuP_2, zuP_3, zuC_1, zuC_2, reduceIte, Nat.reduceEqDiff, false_and, and_false, true_and, and_true, and_self, or_true, true_or, or_false, false_or] at tr168_1018
                          refine zs_if_ne (tgt := 176) (pc := 171) C dX9_personLine_171 (by decide) (fun h171 => ?_) (fun h171 => ?_)
                          · skip
                            have hyd := hq168.2 (by omega)
                            have hTId := hyd.2.2.1
                            refine zs_aload_n (pc := 176) C dX9_personLine_176 rfl ?_
                            refine zs_getf (pc := 177) C dX9_personLine_177 w_X9_39 f_10_28 (by decide) ?_
                            refine zs_iconst (pc := 180) C dX9_personLine_180 (by decide) ?_
                            refine zs_iload_n (pc := 181) C dX9_personLine_181 rfl ?_
                            first | refine zs_imul (pc := 182) C dX9_personLine_182 (by omega) ?_ | refine zs_imulF (pc := 182) C dX9_personLine_182 (fun z182 hz1821 hz1822 => ?_)
                            refine zs_iload_n (pc := 183) C dX9_personLine_183 rfl ?_
                            first | refine zs_iadd (pc := 184) C dX9_personLine_184 (by omega) ?_ | refine zs_iaddF (pc := 184) C dX9_personLine_184 (fun z184 hz1841 hz1842 => ?_)
                            refine zs_aload_n (pc := 185) C dX9_personLine_185 rfl ?_
                            refine zs_geti (r := 1011) (pc := 186) C dX9_personLine_186 w_X9_227 f_10_11 rfl (r_1011 0) (fun v186 e186 l186 u186 => ?_)
                            refine zs_iast (r := 2065) (pc := 189) C dX9_personLine_189 a_65 (by decide) (by omega) rfl (r_2065 _) (by omega) ?_
                            refine zs_goto (tgt := 87) (pc := 190) C dX9_personLine_190 (by decide) ?_
                            exact zs_wk (ih87 _ (by repeat (first | exact zsm_rf | assumption | refine zsm_C (by decide) ?_ | refine zsm_I (by decide) ?_ | refine zsm_J ?_ | refine zsm_c (by assumption) (by decide) ?_)) (by repeat (first | assumption | refine TI_I (by decide) ?_ | refine TI_sm (by assumption) (by decide) ?_)) (by first | omega | (simp only [zuI_1, zuI_2, zuJ_1, zuJ_2, zuJ_3, zuP_1, zuP_2, zuP_3, zuC_1, zuC_2, reduceIte, Nat.reduceEqDiff, false_and, and_false, true_and, and_true, and_self, or_true, true_or, or_false, false_or]; omega)) (by first | omega | (simp only [zuI_1, zuI_2, zuJ_1, zuJ_2, zuJ_3, zuP_1, zuP_2, zuP_3, zuC_1, zuC_2, reduceIte, Nat.reduceEqDiff, false_and, and_false, true_and, and_true, and_self, or_true, true_or, or_false, false_or]; omega)) (by first | omega | (simp only [zuI_1, zuI_2, zuJ_1, zuJ_2, zuJ_3, zuP_1, zuP_2, zuP_3, zuC_1, zuC_2, reduceIte, Nat.reduceEqDiff, false_and, and_false, true_and, and_true, and_self, or_true, true_or, or_false, false_or]; omega))) (zwk_s rfl (zwk_s rfl (zwk_n zwk_0)))
                          · skip
                            refine zs_iconst (pc := 174) C dX9_personLine_174 (by decide) ?_
                            exact zs_zret (pc := 175) C hr hlk dX9_personLine_175 (by omega) ⟨by repeat (first | exact zsm_rf | assumption | refine zsm_C (by decide) ?_ | refine zsm_I (by decide) ?_ | refine zsm_J ?_ | refine zsm_c (by assumption) (by decide) ?_), ⟨by omega, fun q => by first | (exfalso; omega) | exact ⟨(by repeat (first | assumption | refine TI_I (by decide) ?_ | refine TI_sm (by assumption) (by decide) ?_)), (by first | omega | (simp only [zuI_1, zuI_2, zuJ_1, zuJ_2, zuJ_3, zuP_1, zuP_2, zuP_3, zuC_1, zuC_2, reduceIte, Nat.reduceEqDiff, false_and, and_false, true_and, and_true, and_self, or_true, true_or, or_false, false_or]; omega))⟩⟩⟩
                        · skip
                          refine zs_aload_n (pc := 154) C dX9_personLine_154 rfl ?_
                          refine zs_iconst (pc := 155) C dX9_personLine_155 (by decide) ?_
                          refine zVi1 (pc := 156) C dX9_personLine_156 v_X9_220 (c_X9_wrong hX ) (by decide) (by decide) ⟨Nat.zero_le _, Nat.zero_le _⟩ (Nat.le_of_ble_eq_true rfl) (fun x156 G156 l156 u156 hp156 => ?_)
                          obtain ⟨hz156, hq156⟩ := hp156
                          have tr156_1007 := zsm_at hz156 1007 w 0 (by decide)
                          try simp only [zuI_1, zuI_2, zuJ_1, zuJ_2, zuJ_3, zuP_1, zuP_2, zuP_3, zuC_1, zuC_2, reduceIte, Nat.reduceEqDiff, false_and, and_false, true_and, and_true, and_self, or_true, true_or, or_false, false_or] at tr156_1007
                          have tr156_1010 := zsm_at hz156 1010 w 0 (by decide)
                          try simp only [zuI_1, zuI_2, zuJ_1, zuJ_2, zuJ_3, zuP_1, zuP_2, zuP_3, zuC_1, zuC_2, reduceIte, Nat.reduceEqDiff, false_and, and_false, true_and, and_true, and_self, or_true, true_or, or_false, false_or] at tr156_1010
                          have tr156_1006 := zsm_at hz156 1006 w 0 (by decide)
                          try simp only [zuI_1, zuI_2, zuJ_1, zuJ_2, zuJ_3, zuP_1, zuP_2, zuP_3, zuC_1, zuC_2, reduceIte, Nat.reduceEqDiff, false_and, and_false, true_and, and_true, and_self, or_true, true_or, or_false, false_or] at tr156_1006
                          have tr156_1018 := zsm_at hz156 1018 w 0 (by decide)
                          try simp only [zuI_1, zuI_2, zuJ_1, zuJ_2, zuJ_3, zuP_1, zuP_2, zuP_3, zuC_1, zuC_2, reduceIte, Nat.reduceEqDiff, false_and, and_false, true_and, and_true, and_self, or_true, true_or, or_false, false_or] at tr156_1018
                          exact zs_zret (pc := 159) C hr hlk dX9_personLine_159 (by omega) ⟨by repeat (first | exact zsm_rf | assumption | refine zsm_C (by decide) ?_ | refine zsm_I (by decide) ?_ | refine zsm_J ?_ | refine zsm_c (by assumption) (by decide) ?_), ⟨by omega, fun q => by first | (exfalso; omega) | exact ⟨(by repeat (first | assumption | refine TI_I (by decide) ?_ | refine TI_sm (by assumption) (by decide) ?_)), (by first | omega | (simp only [zuI_1, zuI_2, zuJ_1, zuJ_2, zuJ_3, zuP_1, zuP_2, zuP_3, zuC_1, zuC_2, reduceIte, Nat.reduceEqDiff, false_and, and_false, true_and, and_true, and_self, or_true, true_or, or_false, false_or]; omega))⟩⟩⟩
                      · skip
                        refine zs_aload_n (pc := 135) C dX9_personLine_135 rfl ?_
                        refine zs_iconst (pc := 136) C dX9_personLine_136 (by decide) ?_
                        refine zVi1 (pc := 137) C dX9_personLine_137 v_X9_220 (c_X9_wrong hX ) (by decide) (by decide) ⟨Nat.zero_le _, Nat.zero_le _⟩ (Nat.le_of_ble_eq_true rfl) (fun x137 G137 l137 u137 hp137 => ?_)
                        obtain ⟨hz137, hq137⟩ := hp137
                        have tr137_1007 := zsm_at hz137 1007 w 0 (by decide)
                        try simp only [zuI_1, zuI_2, zuJ_1, zuJ_2, zuJ_3, zuP_1, zuP_2, zuP_3, zuC_1, zuC_2, reduceIte, Nat.reduceEqDiff, false_and, and_false, true_and, and_true, and_self, or_true, true_or, or_false, false_or] at tr137_1007
                        have tr137_1010 := zsm_at hz137 1010 w 0 (by decide)
                        try simp only [zuI_1, zuI_2, zuJ_1, zuJ_2, zuJ_3, zuP_1, zuP_2, zuP_3, zuC_1, zuC_2, reduceIte, Nat.reduceEqDiff, false_and, and_false, true_and, and_true, and_self, or_true, true_or, or_false, false_or] at tr137_1010
                        have tr137_1006 := zsm_at hz137 1006 w 0 (by decide)
                        try simp only [zuI_1, zuI_2, zuJ_1, zuJ_2, zuJ_3, zuP_1, zuP_2, zuP_3, zuC_1, zuC_2, reduceIte, Nat.reduceEqDiff, false_and, and_false, true_and, and_true, and_self, or_true, true_or, or_false, false_or] at tr137_1006
                        have tr137_1018 := zsm_at hz137 1018 w 0 (by decide)
                        try simp only [zuI_1, zuI_2, zuJ_1, zuJ_2, zuJ_3, zuP_1, zuP_2, zuP_3, zuC_1, zuC_2, reduceIte, Nat.reduceEqDiff, false_and, and_false, true_and, and_true, and_self, or_true, true_or, or_false, false_or] at tr137_1018
                        exact zs_zret (pc := 140) C hr hlk dX9_personLine_140 (by omega) ⟨by repeat (first | exact zsm_rf | assumption | refine zsm_C (by decide) ?_ | refine zsm_I (by decide) ?_ | refine zsm_J ?_ | refine zsm_c (by assumption) (by decide) ?_), ⟨by omega, fun q => by first | (exfalso; omega) | exact ⟨(by repeat (first | assumption | refine TI_I (by decide) ?_ | refine TI_sm (by assumption) (by decide) ?_)), (by first | omega | (simp only [zuI_1, zuI_2, zuJ_1, zuJ_2, zuJ_3, zuP_1, zuP_2, zuP_3, zuC_1, zuC_2, reduceIte, Nat.reduceEqDiff, false_and, and_false, true_and, and_true, and_self, or_true, true_or, or_false, false_or]; omega))⟩⟩⟩
                    · skip
                      refine zs_aload_n (pc := 108) C dX9_personLine_108 rfl ?_
                      refine zs_iconst (pc := 109) C dX9_personLine_109 (by decide) ?_
                      refine zVi1 (pc := 110) C dX9_personLine_110 v_X9_220 (c_X9_wrong hX ) (by decide) (by decide) ⟨Nat.zero_le _, Nat.zero_le _⟩ (Nat.le_of_ble_eq_true rfl) (fun x110 G110 l110 u110 hp110 => ?_)
                      obtain ⟨hz110, hq110⟩ := hp110
                      have tr110_1007 := zsm_at hz110 1007 w 0 (by decide)
                      try simp only [zuI_1, zuI_2, zuJ_1, zuJ_2, zuJ_3, zuP_1, zuP_2, zuP_3, zuC_1, zuC_2, reduceIte, Nat.reduceEqDiff, false_and, and_false, true_and, and_true, and_self, or_true, true_or, or_false, false_or] at tr110_1007
                      have tr110_1010 := zsm_at hz110 1010 w 0 (by decide)
                      try simp only [zuI_1, zuI_2, zuJ_1, zuJ_2, zuJ_3, zuP_1, zuP_2, zuP_3, zuC_1, zuC_2, reduceIte, Nat.reduceEqDiff, false_and, and_false, true_and, and_true, and_self, or_true, true_or, or_false, false_or] at tr110_1010
                      have tr110_1006 := zsm_at hz110 1006 w 0 (by decide)
                      try simp only [zuI_1, zuI_2, zuJ_1, zuJ_2, zuJ_3, zuP_1, zuP_2, zuP_3, zuC_1, zuC_2, reduceIte, Nat.reduceEqDiff, false_and, and_false, true_and, and_true, and_self, or_true, true_or, or_false, false_or] at tr110_1006
                      have tr110_1018 := zsm_at hz110 1018 w 0 (by decide)
                      try simp only [zuI_1, zuI_2, zuJ_1, zuJ_2, zuJ_3, zuP_1, zuP_2, zuP_3, zuC_1, zuC_2, reduceIte, Nat.reduceEqDiff, false_and, and_false, true_and, and_true, and_self, or_true, true_or, or_false, false_or] at tr110_1018
                      exact zs_zret (pc := 113) C hr hlk dX9_personLine_113 (by omega) ⟨by repeat (first | exact zsm_rf | assumption | refine zsm_C (by decide) ?_ | refine zsm_I (by decide) ?_ | refine zsm_J ?_ | refine zsm_c (by assumption) (by decide) ?_), ⟨by omega, fun q => by first | (exfalso; omega) | exact ⟨(by repeat (first | assumption | refine TI_I (by decide) ?_ | refine TI_sm (by assumption) (by decide) ?_)), (by first | omega | (simp only [zuI_1, zuI_2, zuJ_1, zuJ_2, zuJ_3, zuP_1, zuP_2, zuP_3, zuC_1, zuC_2, reduceIte, Nat.reduceEqDiff, false_and, and_false, true_and, and_true, and_self, or_true, true_or, or_false, false_or]; omega))⟩⟩⟩
              exact zs_wk (L87 _ _ (by repeat (first | exact zsm_rf | assumption | refine zsm_C (by decide) ?_ | refine zsm_I (by decide) ?_ | refine zsm_J ?_ | refine zsm_c (by assumption) (by decide) ?_)) (by repeat (first | assumption | refine TI_I (by decide) ?_ | refine TI_sm (by assumption) (by decide) ?_)) (by first | omega | (simp only [zuI_1, zuI_2, zuJ_1, zuJ_2, zuJ_3, zuP_1, zuP_2, zuP_3, zuC_1, zuC_2, reduceIte, Nat.reduceEqDiff, false_and, and_false, true_and, and_true, and_self, or_true, true_or, or_false, false_or]; omega)) (by first | omega | (simp only [zuI_1, zuI_2, zuJ_1, zuJ_2, zuJ_3, zuP_1, zuP_2, zuP_3, zuC_1, zuC_2, reduceIte, Nat.reduceEqDiff, false_and, and_false, true_and, and_true, and_self, or_true, true_or, or_false, false_or]; omega)) (Nat.lt_succ_self _)) (zwk_s rfl (zwk_s rfl (zwk_n zwk_0)))
            · skip
              refine zs_aload_n (pc := 70) C dX9_personLine_70 rfl ?_
              refine zs_getf (pc := 71) C dX9_personLine_71 w_X9_39 f_10_28 (by decide) ?_
              refine zs_iconst (pc := 74) C dX9_personLine_74 (by decide) ?_
              refine zs_iload_n (pc := 75) C dX9_personLine_75 rfl ?_
              first | refine zs_imul (pc := 76) C dX9_personLine_76 (by omega) ?_ | refine zs_imulF (pc := 76) C dX9_personLine_76 (fun z76 hz761 hz762 => ?_)
              refine zs_iload_n (pc := 77) C dX9_personLine_77 rfl ?_
              first | refine zs_iadd (pc := 78) C dX9_personLine_78 (by omega) ?_ | refine zs_iaddF (pc := 78) C dX9_personLine_78 (fun z78 hz781 hz782 => ?_)
              refine zs_iconst (pc := 79) C dX9_personLine_79 (by decide) ?_
              refine zs_iast (r := 2065) (pc := 80) C dX9_personLine_80 a_65 (by decide) (by omega) rfl (r_2065 _) (by omega) ?_
              first | refine zs_iinc (pc := 81) C dX9_personLine_81 rfl (by decide) (by omega) ?_ | refine zs_iincF (pc := 81) C dX9_personLine_81 rfl (by decide) (fun z81 hz811 hz812 => ?_)
              dsimp only [zset, zclr, znone]
              refine zs_goto (tgt := 65) (pc := 84) C dX9_personLine_84 (by decide) ?_
              exact zs_wk (ih65 _ _ (by first | omega | (simp only [zuI_1, zuI_2, zuJ_1, zuJ_2, zuJ_3, zuP_1, zuP_2, zuP_3, zuC_1, zuC_2, reduceIte, Nat.reduceEqDiff, false_and, and_false, true_and, and_true, and_self, or_true, true_or, or_false, false_or]; omega)) (by repeat (first | exact zsm_rf | assumption | refine zsm_C (by decide) ?_ | refine zsm_I (by decide) ?_ | refine zsm_J ?_ | refine zsm_c (by assumption) (by decide) ?_)) (by repeat (first | assumption | refine TI_I (by decide) ?_ | refine TI_sm (by assumption) (by decide) ?_)) (by first | omega | (simp only [zuI_1, zuI_2, zuJ_1, zuJ_2, zuJ_3, zuP_1, zuP_2, zuP_3, zuC_1, zuC_2, reduceIte, Nat.reduceEqDiff, false_and, and_false, true_and, and_true, and_self, or_true, true_or, or_false, false_or]; omega)) (by first | omega | (simp only [zuI_1, zuI_2, zuJ_1, zuJ_2, zuJ_3, zuP_1, zuP_2, zuP_3, zuC_1, zuC_2, reduceIte, Nat.reduceEqDiff, false_and, and_false, true_and, and_true, and_self, or_true, true_or, or_false, false_or]; omega)) (by first | omega | (simp only [zuI_1, zuI_2, zuJ_1, zuJ_2, zuJ_3, zuP_1, zuP_2, zuP_3, zuC_1, zuC_2, reduceIte, Nat.reduceEqDiff, false_and, and_false, true_and, and_true, and_self, or_true, true_or, or_false, false_or]; omega))) (zwk_s rfl (zwk_s rfl (zwk_s rfl zwk_0)))
        exact zs_wk (L65 _ _ _ (by first | omega | (simp only [zuI_1, zuI_2, zuJ_1, zuJ_2, zuJ_3, zuP_1, zuP_2, zuP_3, zuC_1, zuC_2, reduceIte, Nat.reduceEqDiff, false_and, and_false, true_and, and_true, and_self, or_true, true_or, or_false, false_or]; omega)) (by repeat (first | exact zsm_rf | assumption | refine zsm_C (by decide) ?_ | refine zsm_I (by decide) ?_ | refine zsm_J ?_ | refine zsm_c (by assumption) (by decide) ?_)) (by repeat (first | assumption | refine TI_I (by decide) ?_ | refine TI_sm (by assumption) (by decide) ?_)) (by first | omega | (simp only [zuI_1, zuI_2, zuJ_1, zuJ_2, zuJ_3, zuP_1, zuP_2, zuP_3, zuC_1, zuC_2, reduceIte, Nat.reduceEqDiff, false_and, and_false, true_and, and_true, and_self, or_true, true_or, or_false, false_or]; omega)) (by first | omega | (simp only [zuI_1, zuI_2, zuJ_1, zuJ_2, zuJ_3, zuP_1, zuP_2, zuP_3, zuC_1, zuC_2, reduceIte, Nat.reduceEqDiff, false_and, and_false, true_and, and_true, and_self, or_true, true_or, or_false, false_or]; omega)) (Nat.lt_succ_self _)) (zwk_s rfl (zwk_s rfl (zwk_s rfl zwk_0)))
      · skip
        refine zs_iconst (pc := 51) C dX9_personLine_51 (by decide) ?_
        exact zs_zret (pc := 52) C hr hlk dX9_personLine_52 (by omega) ⟨by repeat (first | exact zsm_rf | assumption | refine zsm_C (by decide) ?_ | refine zsm_I (by decide) ?_ | refine zsm_J ?_ | refine zsm_c (by assumption) (by decide) ?_), ⟨by omega, fun q => by first | (exfalso; omega) | exact ⟨(by repeat (first | assumption | refine TI_I (by decide) ?_ | refine TI_sm (by assumption) (by decide) ?_)), (by first | omega | (simp only [zuI_1, zuI_2, zuJ_1, zuJ_2, zuJ_3, zuP_1, zuP_2, zuP_3, zuC_1, zuC_2, reduceIte, Nat.reduceEqDiff, false_and, and_false, true_and, and_true, and_self, or_true, true_or, or_false, false_or]; omega))⟩⟩⟩
  · skip
    refine zs_aload_n (pc := 8) C dX9_personLine_8 rfl ?_
    refine zs_iconst (pc := 9) C dX9_personLine_9 (by decide) ?_
    refine zVi1 (pc := 10) C dX9_personLine_10 v_X9_220 (c_X9_wrong hX ) (by decide) (by decide) ⟨Nat.zero_le _, Nat.zero_le _⟩ (Nat.le_of_ble_eq_true rfl) (fun x10 G10 l10 u10 hp10 => ?_)
    obtain ⟨hz10, hq10⟩ := hp10
    have tr10_1007 := zsm_at hz10 1007 w 0 (by decide)
    try simp only [zuI_1, zuI_2, zuJ_1, zuJ_2, zuJ_3, zuP_1, zuP_2, zuP_3, zuC_1, zuC_2, reduceIte, Nat.reduceEqDiff, false_and, and_false, true_and, and_true, and_self, or_true, true_or, or_false, false_or] at tr10_1007
    have tr10_1010 := zsm_at hz10 1010 w 0 (by decide)
    try simp only [zuI_1, zuI_2, zuJ_1, zuJ_2, zuJ_3, zuP_1, zuP_2, zuP_3, zuC_1, zuC_2, reduceIte, Nat.reduceEqDiff, false_and, and_false, true_and, and_true, and_self, or_true, true_or, or_false, false_or] at tr10_1010
    have tr10_1006 := zsm_at hz10 1006 w 0 (by decide)
    try simp only [zuI_1, zuI_2, zuJ_1, zuJ_2, zuJ_3, zuP_1, zuP_2, zuP_3, zuC_1, zuC_2, reduceIte, Nat.reduceEqDiff, false_and, and_false, true_and, and_true, and_self, or_true, true_or, or_false, false_or] at tr10_1006
    have tr10_1018 := zsm_at hz10 1018 w 0 (by decide)
    try simp only [zuI_1, zuI_2, zuJ_1, zuJ_2, zuJ_3, zuP_1, zuP_2, zuP_3, zuC_1, zuC_2, reduceIte, Nat.reduceEqDiff, false_and, and_false, true_and, and_true, and_self, or_true, true_or, or_false, false_or] at tr10_1018
    exact zs_zret (pc := 13) C hr hlk dX9_personLine_13 (by omega) ⟨by repeat (first | exact zsm_rf | assumption | refine zsm_C (by decide) ?_ | refine zsm_I (by decide) ?_ | refine zsm_J ?_ | refine zsm_c (by assumption) (by decide) ?_), ⟨by omega, fun q => by first | (exfalso; omega) | exact ⟨(by repeat (first | assumption | refine TI_I (by decide) ?_ | refine TI_sm (by assumption) (by decide) ?_)), (by first | omega | (simp only [zuI_1, zuI_2, zuJ_1, zuJ_2, zuJ_3, zuP_1, zuP_2, zuP_3, zuC_1, zuC_2, reduceIte, Nat.reduceEqDiff, false_and, and_false, true_and, and_true, and_self, or_true, true_or, or_false, false_or]; omega))⟩⟩⟩

set_option maxHeartbeats 4000000 in
set_option maxRecDepth 100000 in
theorem c_X9_cakeLine {l : Launch} {Γ : zΓ} {G : zH} {w : Nat}  (hX : zXs Γ) (hT : TI w G) (h1 : G.1 1008 w 0 = 1) : zMet l Γ yX9_cakeLine cX9_cakeLine 2 (some .boolean) 3 [zr 10 w] G (zpi (fun x G' => zsm [1007, 1008, 1009, 1010, 1004, 1005, 1011, 2066, 2067, 2068, 2069, 1019] G G' ∧ ((x = 0 ∨ x = 1) ∧ (x = 1 → TI w G' ∧ G.1 1010 w 0 < G'.1 1010 w 0)))) := by
  have t1 := hT.1
  have t3 := hT.2.2.1
  refine zMet_of RX9 hX (by decide) rfl (Nat.le_of_ble_eq_true rfl) ?_
  intro p e s m args below meth c C hr hlk
  show Z p l e (zrm 3) s m args below meth c Γ 2 0 0 (MQ below (zQc Γ (zpi (fun x G' => zsm [1007, 1008, 1009, 1010, 1004, 1005, 1011, 2066, 2067, 2068, 2069, 1019] G G' ∧ ((x = 0 ∨ x = 1) ∧ (x = 1 → TI w G' ∧ G.1 1010 w 0 < G'.1 1010 w 0))))) args s 0 0 (zA Γ)) 0 [some (zr 10 w), none] [] G
  refine zs_aload_n (pc := 0) C dX9_cakeLine_0 rfl ?_
  refine zs_geti (r := 1019) (pc := 1) C dX9_cakeLine_1 w_X9_246 f_10_19 rfl (r_1019 0) (fun v1 e1 l1 u1 => ?_)
  refine zs_iconst (pc := 4) C dX9_cakeLine_4 (by decide) ?_
  refine zs_icmp_ne (tgt := 14) (pc := 5) C dX9_cakeLine_5 (by decide) (fun h5 => ?_) (fun h5 => ?_)
  · skip
    refine zs_aload_n (pc := 14) C dX9_cakeLine_14 rfl ?_
    refine zVv0 (pc := 15) C dX9_cakeLine_15 v_X9_230 (c_X9_token hX (by omega)) (by decide) (by decide) ⟨Nat.zero_le _, Nat.zero_le _⟩ (Nat.le_of_ble_eq_true rfl) (fun G15 hp15 => ?_)
    obtain ⟨hz15, hq15⟩ := hp15
    have tr15_1006 := zsm_at hz15 1006 w 0 (by decide)
    try simp only [zuI_1, zuI_2, zuJ_1, zuJ_2, zuJ_3, zuP_1, zuP_2, zuP_3, zuC_1, zuC_2, reduceIte, Nat.reduceEqDiff, false_and, and_false, true_and, and_true, and_self, or_true, true_or, or_false, false_or] at tr15_1006
    have tr15_1019 := zsm_at hz15 1019 w 0 (by decide)
    try simp only [zuI_1, zuI_2, zuJ_1, zuJ_2, zuJ_3, zuP_1, zuP_2, zuP_3, zuC_1, zuC_2, reduceIte, Nat.reduceEqDiff, false_and, and_false, true_and, and_true, and_self, or_true, true_or, or_false, false_or] at tr15_1019
    have hTI := hq15.1
    refine zs_iconst (pc := 18) C dX9_cakeLine_18 (by decide) ?_
    refine zs_aload_n (pc := 19) C dX9_cakeLine_19 rfl ?_
    refine zs_geti (r := 1019) (pc := 20) C dX9_cakeLine_20 w_X9_246 f_10_19 rfl (r_1019 0) (fun v20 e20 l20 u20 => ?_)
    first | refine zs_iadd (pc := 23) C dX9_cakeLine_23 (by omega) ?_ | refine zs_iaddF (pc := 23) C dX9_cakeLine_23 (fun z23 hz231 hz232 => ?_)
    refine zs_istore_n (pc := 24) C dX9_cakeLine_24 (by decide) ?_
    dsimp only [zset, zclr, znone]
    refine zs_aload_n (pc := 25) C dX9_cakeLine_25 rfl ?_
    refine zs_aload_n (pc := 26) C dX9_cakeLine_26 rfl ?_
    refine zs_getf (pc := 27) C dX9_cakeLine_27 w_X9_42 f_10_29 (by decide) ?_
    refine zs_iconst (pc := 30) C dX9_cakeLine_30 (by decide) ?_
    refine zs_aload_n (pc := 31) C dX9_cakeLine_31 rfl ?_
    refine zs_geti (r := 1019) (pc := 32) C dX9_cakeLine_32 w_X9_246 f_10_19 rfl (r_1019 0) (fun v32 e32 l32 u32 => ?_)
    refine zVi3 (pc := 35) C dX9_cakeLine_35 v_X9_284 (c_X9_newName66 hX (by repeat (first | assumption | refine TI_I (by decide) ?_ | refine TI_sm (by assumption) (by decide) ?_)) (by omega)) (by decide) (by decide) ⟨Nat.zero_le _, Nat.zero_le _⟩ (Nat.le_of_ble_eq_true rfl) (fun x35 G35 l35 u35 hp35 => ?_)
    obtain ⟨hz35, hq35⟩ := hp35
    have tr35_1006 := zsm_at hz35 1006 w 0 (by decide)
    try simp only [zuI_1, zuI_2, zuJ_1, zuJ_2, zuJ_3, zuP_1, zuP_2, zuP_3, zuC_1, zuC_2, reduceIte, Nat.reduceEqDiff, false_and, and_false, true_and, and_true, and_self, or_true, true_or, or_false, false_or] at tr35_1006
    have tr35_1019 := zsm_at hz35 1019 w 0 (by decide)
    try simp only [zuI_1, zuI_2, zuJ_1, zuJ_2, zuJ_3, zuP_1, zuP_2, zuP_3, zuC_1, zuC_2, reduceIte, Nat.reduceEqDiff, false_and, and_false, true_and, and_true, and_self, or_true, true_or, or_false, false_or] at tr35_1019
    refine zs_if_eq (tgt := 52) (pc := 38) C dX9_cakeLine_38 (by decide) (fun h38 => ?_) (fun h38 => ?_)
    · skip
      refine zs_iconst (pc := 52) C dX9_cakeLine_52 (by decide) ?_
      exact zs_zret (pc := 53) C hr hlk dX9_cakeLine_53 (by omega) ⟨by repeat (first | exact zsm_rf | assumption | refine zsm_C (by decide) ?_ | refine zsm_I (by decide) ?_ | refine zsm_J ?_ | refine zsm_c (by assumption) (by decide) ?_), ⟨by omega, fun q => by first | (exfalso; omega) | exact ⟨(by repeat (first | assumption | refine TI_I (by decide) ?_ | refine TI_sm (by assumption) (by decide) ?_)), (by first | omega | (simp only [zuI_1, zuI_2, zuJ_1, zuJ_2, zuJ_3, zuP_1, zuP_2, zuP_3, zuC_1, zuC_2, reduceIte, Nat.reduceEqDiff, false_and, and_false, true_and, and_true, and_self, or_true, true_or, or_false, false_or]; omega))⟩⟩⟩
    · skip
      refine zs_aload_n (pc := 41) C dX9_cakeLine_41 rfl ?_
      refine zs_iconst (pc := 42) C dX9_cakeLine_42 (by decide) ?_
      refine zs_sipush (pc := 43) C dX9_cakeLine_43 (by decide) (by decide) ?_
      refine zVi2 (pc := 46) C dX9_cakeLine_46 v_X9_236 (c_X9_number hX (hq35.2 (by omega)).1) (by decide) (by decide) ⟨Nat.zero_le _, Nat.zero_le _⟩ (Nat.le_of_ble_eq_true rfl) (fun x46 G46 l46 u46 hp46 => ?_)
      obtain ⟨hz46, hq46⟩ := hp46
      have tr46_1006 := zsm_at hz46 1006 w 0 (by decide)
      try simp only [zuI_1, zuI_2, zuJ_1, zuJ_2, zuJ_3, zuP_1, zuP_2, zuP_3, zuC_1, zuC_2, reduceIte, Nat.reduceEqDiff, false_and, and_false, true_and, and_true, and_self, or_true, true_or, or_false, false_or] at tr46_1006
      have tr46_1019 := zsm_at hz46 1019 w 0 (by decide)
      try simp only [zuI_1, zuI_2, zuJ_1, zuJ_2, zuJ_3, zuP_1, zuP_2, zuP_3, zuC_1, zuC_2, reduceIte, Nat.reduceEqDiff, false_and, and_false, true_and, and_true, and_self, or_true, true_or, or_false, false_or] at tr46_1019
      refine zs_if_ne (tgt := 54) (pc := 49) C dX9_cakeLine_49 (by decide) (fun h49 => ?_) (fun h49 => ?_)
      · skip
        have hy := hq46.2 (by omega)
        have hTI2 := hy.2.2.1
        have hy2 := (hq35.2 (by omega)).2
        refine zs_aload_n (pc := 54) C dX9_cakeLine_54 rfl ?_
        refine zs_getf (pc := 55) C dX9_cakeLine_55 w_X9_45 f_10_30 (by decide) ?_
        refine zs_iload_n (pc := 58) C dX9_cakeLine_58 rfl ?_
        refine zs_aload_n (pc := 59) C dX9_cakeLine_59 rfl ?_
        refine zs_geti (r := 1011) (pc := 60) C dX9_cakeLine_60 w_X9_227 f_10_11 rfl (r_1011 0) (fun v60 e60 l60 u60 => ?_)
        refine zs_iast (r := 2067) (pc := 63) C dX9_cakeLine_63 a_67 (by decide) (by omega) rfl (r_2067 _) (by omega) ?_
        refine zs_aload_n (pc := 64) C dX9_cakeLine_64 rfl ?_
        refine zs_iconst (pc := 65) C dX9_cakeLine_65 (by decide) ?_
        refine zs_bipush (pc := 66) C dX9_cakeLine_66 (by decide) (by decide) ?_
        refine zVi2 (pc := 68) C dX9_cakeLine_68 v_X9_236 (c_X9_number hX (by repeat (first | assumption | refine TI_I (by decide) ?_ | refine TI_sm (by assumption) (by decide) ?_))) (by decide) (by decide) ⟨Nat.zero_le _, Nat.zero_le _⟩ (Nat.le_of_ble_eq_true rfl) (fun x68 G68 l68 u68 hp68 => ?_)
        obtain ⟨hz68, hq68⟩ := hp68
        try simp only [zuI_1, zuI_2, zuJ_1, zuJ_2, zuJ_3, zuP_1, zuP_2, zuP_3, zuC_1, zuC_2, reduceIte, Nat.reduceEqDiff, false_and, and_false, true_and, and_true, and_self, or_true, true_or, or_false, false_or] at hq68
        have tr68_1006 := zsm_at hz68 1006 w 0 (by decide)
        try simp only [zuI_1, zuI_2, zuJ_1, zuJ_2, zuJ_3, zuP_1, zuP_2, zuP_3, zuC_1, zuC_2, reduceIte, Nat.reduceEqDiff, false_and, and_false, true_and, and_true, and_self, or_true, true_or, or_false, false_or] at tr68_1006
        have tr68_1019 := zsm_at hz68 1019 w 0 (by decide)
        try simp only [zuI_1, zuI_2, zuJ_1, zuJ_2, zuJ_3, zuP_1, zuP_2, zuP_3, zuC_1, zuC_2, reduceIte, Nat.reduceEqDiff, false_and, and_false, true_and, and_true, and_self, or_true, true_or, or_false, false_or] at tr68_1019
        refine zs_if_ne (tgt := 76) (pc := 71) C dX9_cakeLine_71 (by decide) (fun h71 => ?_) (fun h71 => ?_)
        · skip
          have hyb := hq68.2 (by omega)
          have hTI3 := hyb.2.2.1
          refine zs_aload_n (pc := 76) C dX9_cakeLine_76 rfl ?_
          refine zs_getf (pc := 77) C dX9_cakeLine_77 w_X9_48 f_10_31 (by decide) ?_
          refine zs_iload_n (pc := 80) C dX9_cakeLine_80 rfl ?_
          refine zs_aload_n (pc := 81) C dX9_cakeLine_81 rfl ?_
          refine zs_geti (r := 1011) (pc := 82) C dX9_cakeLine_82 w_X9_227 f_10_11 rfl (r_1011 0) (fun v82 e82 l82 u82 => ?_)
          refine zs_iast (r := 2068) (pc := 85) C dX9_cakeLine_85 a_68 (by decide) (by omega) rfl (r_2068 _) (by omega) ?_
          refine zs_aload_n (pc := 86) C dX9_cakeLine_86 rfl ?_
          refine zs_iconst (pc := 87) C dX9_cakeLine_87 (by decide) ?_
          refine zs_bipush (pc := 88) C dX9_cakeLine_88 (by decide) (by decide) ?_
          refine zVi2 (pc := 90) C dX9_cakeLine_90 v_X9_236 (c_X9_number hX (by repeat (first | assumption | refine TI_I (by decide) ?_ | refine TI_sm (by assumption) (by decide) ?_))) (by decide) (by decide) ⟨Nat.zero_le _, Nat.zero_le _⟩ (Nat.le_of_ble_eq_true rfl) (fun x90 G90 l90 u90 hp90 => ?_)
          obtain ⟨hz90, hq90⟩ := hp90
          try simp only [zuI_1, zuI_2, zuJ_1, zuJ_2, zuJ_3, zuP_1, zuP_2, zuP_3, zuC_1, zuC_2, reduceIte, Nat.reduceEqDiff, false_and, and_false, true_and, and_true, and_self, or_true, true_or, or_false, false_or] at hq90
          have tr90_1006 := zsm_at hz90 1006 w 0 (by decide)
          try simp only [zuI_1, zuI_2, zuJ_1, zuJ_2, zuJ_3, zuP_1, zuP_2, zuP_3, zuC_1, zuC_2, reduceIte, Nat.reduceEqDiff, false_and, and_false, true_and, and_true, and_self, or_true, true_or, or_false, false_or] at tr90_1006
          have tr90_1019 := zsm_at hz90 1019 w 0 (by decide)
          try simp only [zuI_1, zuI_2, zuJ_1, zuJ_2, zuJ_3, zuP_1, zuP_2, zuP_3, zuC_1, zuC_2, reduceIte, Nat.reduceEqDiff, false_and, and_false, true_and, and_true, and_self, or_true, true_or, or_false, false_or] at tr90_1019
          refine zs_if_ne (tgt := 98) (pc := 93) C dX9_cakeLine_93 (by decide) (fun h93 => ?_) (fun h93 => ?_)
          · skip
            have hyc := hq90.2 (by omega)
            have hTI4 := hyc.2.2.1
            refine zs_aload_n (pc := 98) C dX9_cakeLine_98 rfl ?_
            refine zs_getf (pc := 99) C dX9_cakeLine_99 w_X9_51 f_10_32 (by decide) ?_
            refine zs_iload_n (pc := 102) C dX9_cakeLine_102 rfl ?_
            refine zs_aload_n (pc := 103) C dX9_cakeLine_103 rfl ?_
            refine zs_geti (r := 1011) (pc := 104) C dX9_cakeLine_104 w_X9_227 f_10_11 rfl (r_1011 0) (fun v104 e104 l104 u104 => ?_)
            refine zs_iast (r := 2069) (pc := 107) C dX9_cakeLine_107 a_69 (by decide) (by omega) rfl (r_2069 _) (by omega) ?_
            refine zs_aload_n (pc := 108) C dX9_cakeLine_108 rfl ?_
            refine zs_dupa (pc := 109) C dX9_cakeLine_109 ?_
            refine zs_geti (r := 1019) (pc := 110) C dX9_cakeLine_110 w_X9_246 f_10_19 rfl (r_1019 0) (fun v110 e110 l110 u110 => ?_)
            try simp only [zuI_1, zuI_2, zuJ_1, zuJ_2, zuJ_3, zuP_1, zuP_2, zuP_3, zuC_1, zuC_2, reduceIte, Nat.reduceEqDiff, false_and, and_false, true_and, and_true, and_self, or_true, true_or, or_false, false_or] at e110
            refine zs_iconst (pc := 113) C dX9_cakeLine_113 (by decide) ?_
            first | refine zs_iadd (pc := 114) C dX9_cakeLine_114 (by omega) ?_ | refine zs_iaddF (pc := 114) C dX9_cakeLine_114 (fun z114 hz1141 hz1142 => ?_)
            refine zs_puti (r := 1019) (pc := 115) C dX9_cakeLine_115 w_X9_246 f_10_19 rfl (r_1019 0) (by omega) ?_
            refine zs_iconst (pc := 118) C dX9_cakeLine_118 (by decide) ?_
            exact zs_zret (pc := 119) C hr hlk dX9_cakeLine_119 (by omega) ⟨by repeat (first | exact zsm_rf | assumption | refine zsm_C (by decide) ?_ | refine zsm_I (by decide) ?_ | refine zsm_J ?_ | refine zsm_c (by assumption) (by decide) ?_), ⟨by omega, fun q => by first | (exfalso; omega) | exact ⟨(by repeat (first | assumption | refine TI_I (by decide) ?_ | refine TI_sm (by assumption) (by decide) ?_)), (by first | omega | (simp only [zuI_1, zuI_2, zuJ_1, zuJ_2, zuJ_3, zuP_1, zuP_2, zuP_3, zuC_1, zuC_2, reduceIte, Nat.reduceEqDiff, false_and, and_false, true_and, and_true, and_self, or_true, true_or, or_false, false_or]; omega))⟩⟩⟩
          · skip
            refine zs_iconst (pc := 96) C dX9_cakeLine_96 (by decide) ?_
            exact zs_zret (pc := 97) C hr hlk dX9_cakeLine_97 (by omega) ⟨by repeat (first | exact zsm_rf | assumption | refine zsm_C (by decide) ?_ | refine zsm_I (by decide) ?_ | refine zsm_J ?_ | refine zsm_c (by assumption) (by decide) ?_), ⟨by omega, fun q => by first | (exfalso; omega) | exact ⟨(by repeat (first | assumption | refine TI_I (by decide) ?_ | refine TI_sm (by assumption) (by decide) ?_)), (by first | omega | (simp only [zuI_1, zuI_2, zuJ_1, zuJ_2, zuJ_3, zuP_1, zuP_2, zuP_3, zuC_1, zuC_2, reduceIte, Nat.reduceEqDiff, false_and, and_false, true_and, and_true, and_self, or_true, true_or, or_false, false_or]; omega))⟩⟩⟩
        · skip
          refine zs_iconst (pc := 74) C dX9_cakeLine_74 (by decide) ?_
          exact zs_zret (pc := 75) C hr hlk dX9_cakeLine_75 (by omega) ⟨by repeat (first | exact zsm_rf | assumption | refine zsm_C (by decide) ?_ | refine zsm_I (by decide) ?_ | refine zsm_J ?_ | refine zsm_c (by assumption) (by decide) ?_), ⟨by omega, fun q => by first | (exfalso; omega) | exact ⟨(by repeat (first | assumption | refine TI_I (by decide) ?_ | refine TI_sm (by assumption) (by decide) ?_)), (by first | omega | (simp only [zuI_1, zuI_2, zuJ_1, zuJ_2, zuJ_3, zuP_1, zuP_2, zuP_3, zuC_1, zuC_2, reduceIte, Nat.reduceEqDiff, false_and, and_false, true_and, and_true, and_self, or_true, true_or, or_false, false_or]; omega))⟩⟩⟩
      · skip
        refine zs_iconst (pc := 52) C dX9_cakeLine_52 (by decide) ?_
        exact zs_zret (pc := 53) C hr hlk dX9_cakeLine_53 (by omega) ⟨by repeat (first | exact zsm_rf | assumption | refine zsm_C (by decide) ?_ | refine zsm_I (by decide) ?_ | refine zsm_J ?_ | refine zsm_c (by assumption) (by decide) ?_), ⟨by omega, fun q => by first | (exfalso; omega) | exact ⟨(by repeat (first | assumption | refine TI_I (by decide) ?_ | refine TI_sm (by assumption) (by decide) ?_)), (by first | omega | (simp only [zuI_1, zuI_2, zuJ_1, zuJ_2, zuJ_3, zuP_1, zuP_2, zuP_3, zuC_1, zuC_2, reduceIte, Nat.reduceEqDiff, false_and, and_false, true_and, and_true, and_self, or_true, true_or, or_false, false_or]; omega))⟩⟩⟩
  · skip
    refine zs_aload_n (pc := 8) C dX9_cakeLine_8 rfl ?_
    refine zs_iconst (pc := 9) C dX9_cakeLine_9 (by decide) ?_
    refine zVi1 (pc := 10) C dX9_cakeLine_10 v_X9_220 (c_X9_wrong hX ) (by decide) (by decide) ⟨Nat.zero_le _, Nat.zero_le _⟩ (Nat.le_of_ble_eq_true rfl) (fun x10 G10 l10 u10 hp10 => ?_)
    obtain ⟨hz10, hq10⟩ := hp10
    have tr10_1007 := zsm_at hz10 1007 w 0 (by decide)
    try simp only [zuI_1, zuI_2, zuJ_1, zuJ_2, zuJ_3, zuP_1, zuP_2, zuP_3, zuC_1, zuC_2, reduceIte, Nat.reduceEqDiff, false_and, and_false, true_and, and_true, and_self, or_true, true_or, or_false, false_or] at tr10_1007
    have tr10_1010 := zsm_at hz10 1010 w 0 (by decide)
    try simp only [zuI_1, zuI_2, zuJ_1, zuJ_2, zuJ_3, zuP_1, zuP_2, zuP_3, zuC_1, zuC_2, reduceIte, Nat.reduceEqDiff, false_and, and_false, true_and, and_true, and_self, or_true, true_or, or_false, false_or] at tr10_1010
    have tr10_1006 := zsm_at hz10 1006 w 0 (by decide)
    try simp only [zuI_1, zuI_2, zuJ_1, zuJ_2, zuJ_3, zuP_1, zuP_2, zuP_3, zuC_1, zuC_2, reduceIte, Nat.reduceEqDiff, false_and, and_false, true_and, and_true, and_self, or_true, true_or, or_false, false_or] at tr10_1006
    have tr10_1019 := zsm_at hz10 1019 w 0 (by decide)
    try simp only [zuI_1, zuI_2, zuJ_1, zuJ_2, zuJ_3, zuP_1, zuP_2, zuP_3, zuC_1, zuC_2, reduceIte, Nat.reduceEqDiff, false_and, and_false, true_and, and_true, and_self, or_true, true_or, or_false, false_or] at tr10_1019
    exact zs_zret (pc := 13) C hr hlk dX9_cakeLine_13 (by omega) ⟨by repeat (first | exact zsm_rf | assumption | refine zsm_C (by decide) ?_ | refine zsm_I (by decide) ?_ | refine zsm_J ?_ | refine zsm_c (by assumption) (by decide) ?_), ⟨by omega, fun q => by first | (exfalso; omega) | exact ⟨(by repeat (first | assumption | refine TI_I (by decide) ?_ | refine TI_sm (by assumption) (by decide) ?_)), (by first | omega | (simp only [zuI_1, zuI_2, zuJ_1, zuJ_2, zuJ_3, zuP_1, zuP_2, zuP_3, zuC_1, zuC_2, reduceIte, Nat.reduceEqDiff, false_and, and_false, true_and, and_true, and_self, or_true, true_or, or_false, false_or]; omega))⟩⟩⟩

set_option maxHeartbeats 4000000 in
set_option maxRecDepth 100000 in
theorem c_X9_lineRead {l : Launch} {Γ : zΓ} {G : zH} {w : Nat}  (hX : zXs Γ) (hM : MI Γ w G)(hT : TI w G) (hC : RC Γ w G) : zMet l Γ yX9_lineRead cX9_lineRead 3 (some .boolean) 5 [zr 10 w] G (zpi (fun x G' => zsm [1007, 1008, 1009, 1010, 1004, 1005, 1011, 2063, 2064, 2065, 1018, 2066, 2067, 2068, 2069, 1019, 2074, 2075, 2076, 2078, 1043, 1021, 2077, 1042, 1044, 1045, 1046, 1047, 2071, 2072, 2073, 2061, 2062, 1017, 2070, 1020, 2060, 2059] G G' ∧ ((x = 0 ∨ x = 1) ∧ MI Γ w G' ∧ (x = 1 → TI w G' ∧ RC Γ w G' ∧ G.1 1010 w 0 < G'.1 1010 w 0)))) := by
  have t1 := hT.1
  have t3 := hT.2.2.1
  have t5 := hT.2.2.2.1
  have t6 := hT.2.2.2.2.1
  have t7 := hT.2.2.2.2.2
  refine zMet_of RX9 hX (by decide) rfl (Nat.le_of_ble_eq_true rfl) ?_
  intro p e s m args below meth c C hr hlk
  show Z p l e (zrm 5) s m args below meth c Γ 3 0 0 (MQ below (zQc Γ (zpi (fun x G' => zsm [1007, 1008, 1009, 1010, 1004, 1005, 1011, 2063, 2064, 2065, 1018, 2066, 2067, 2068, 2069, 1019, 2074, 2075, 2076, 2078, 1043, 1021, 2077, 1042, 1044, 1045, 1046, 1047, 2071, 2072, 2073, 2061, 2062, 1017, 2070, 1020, 2060, 2059] G G' ∧ ((x = 0 ∨ x = 1) ∧ MI Γ w G' ∧ (x = 1 → TI w G' ∧ RC Γ w G' ∧ G.1 1010 w 0 < G'.1 1010 w 0))))) args s 0 0 (zA Γ)) 0 [some (zr 10 w), none, none] [] G
  refine zs_aload_n (pc := 0) C dX9_lineRead_0 rfl ?_
  refine zs_geti (r := 1008) (pc := 1) C dX9_lineRead_1 w_X9_196 f_10_8 rfl (r_1008 0) (fun v1 e1 l1 u1 => ?_)
  refine zs_iconst (pc := 4) C dX9_lineRead_4 (by decide) ?_
  refine zs_icmp_ne (tgt := 17) (pc := 5) C dX9_lineRead_5 (by decide) (fun h5 => ?_) (fun h5 => ?_)
  · skip
    refine zs_aload_n (pc := 17) C dX9_lineRead_17 rfl ?_
    refine zs_iconst (pc := 18) C dX9_lineRead_18 (by decide) ?_
    refine zVi1 (pc := 19) C dX9_lineRead_19 v_X9_220 (c_X9_wrong hX ) (by decide) (by decide) ⟨Nat.zero_le _, Nat.zero_le _⟩ (Nat.le_of_ble_eq_true rfl) (fun x19 G19 l19 u19 hp19 => ?_)
    obtain ⟨hz19, hq19⟩ := hp19
    have tr19_1007 := zsm_at hz19 1007 w 0 (by decide)
    try simp only [zuI_1, zuI_2, zuJ_1, zuJ_2, zuJ_3, zuP_1, zuP_2, zuP_3, zuC_1, zuC_2, reduceIte, Nat.reduceEqDiff, false_and, and_false, true_and, and_true, and_self, or_true, true_or, or_false, false_or] at tr19_1007
    have tr19_1010 := zsm_at hz19 1010 w 0 (by decide)
    try simp only [zuI_1, zuI_2, zuJ_1, zuJ_2, zuJ_3, zuP_1, zuP_2, zuP_3, zuC_1, zuC_2, reduceIte, Nat.reduceEqDiff, false_and, and_false, true_and, and_true, and_self, or_true, true_or, or_false, false_or] at tr19_1010
    have tr19_1006 := zsm_at hz19 1006 w 0 (by decide)
    try simp only [zuI_1, zuI_2, zuJ_1, zuJ_2, zuJ_3, zuP_1, zuP_2, zuP_3, zuC_1, zuC_2, reduceIte, Nat.reduceEqDiff, false_and, and_false, true_and, and_true, and_self, or_true, true_or, or_false, false_or] at tr19_1006
    have tr19_1017 := zsm_at hz19 1017 w 0 (by decide)
    try simp only [zuI_1, zuI_2, zuJ_1, zuJ_2, zuJ_3, zuP_1, zuP_2, zuP_3, zuC_1, zuC_2, reduceIte, Nat.reduceEqDiff, false_and, and_false, true_and, and_true, and_self, or_true, true_or, or_false, false_or] at tr19_1017
    have tr19_1020 := zsm_at hz19 1020 w 0 (by decide)
    try simp only [zuI_1, zuI_2, zuJ_1, zuJ_2, zuJ_3, zuP_1, zuP_2, zuP_3, zuC_1, zuC_2, reduceIte, Nat.reduceEqDiff, false_and, and_false, true_and, and_true, and_self, or_true, true_or, or_false, false_or] at tr19_1020
    exact zs_zret (pc := 22) C hr hlk dX9_lineRead_22 (by omega) ⟨by repeat (first | exact zsm_rf | assumption | refine zsm_C (by decide) ?_ | refine zsm_I (by decide) ?_ | refine zsm_J ?_ | refine zsm_c (by assumption) (by decide) ?_), ⟨by omega, (by repeat (first | assumption | refine MI_I (by decide) ?_ | refine MI_J ?_ | refine MI_sm (by assumption) (by decide) ?_ | refine MI_sn (by assumption) (by decide) ?_)), fun q => by first | (exfalso; omega) | exact ⟨(by repeat (first | assumption | refine TI_I (by decide) ?_ | refine TI_sm (by assumption) (by decide) ?_)), (by repeat (first | assumption | refine RC_I (by decide) ?_ | refine RC_sm (by assumption) (by decide) ?_)), (by first | omega | (simp only [zuI_1, zuI_2, zuJ_1, zuJ_2, zuJ_3, zuP_1, zuP_2, zuP_3, zuC_1, zuC_2, reduceIte, Nat.reduceEqDiff, false_and, and_false, true_and, and_true, and_self, or_true, true_or, or_false, false_or]; omega))⟩⟩⟩
  · skip
    refine zs_aload_n (pc := 8) C dX9_lineRead_8 rfl ?_
    refine zs_geti (r := 1009) (pc := 9) C dX9_lineRead_9 w_X9_207 f_10_9 rfl (r_1009 0) (fun v9 e9 l9 u9 => ?_)
    refine zs_bipush (pc := 12) C dX9_lineRead_12 (by decide) (by decide) ?_
    refine zs_icmp_le (tgt := 23) (pc := 14) C dX9_lineRead_14 (by decide) (fun h14 => ?_) (fun h14 => ?_)
    · skip
      have J321 : ∀ (x1 : Int) (G1 : zH), (zsm [1007, 1008, 1009, 1010, 1004, 1005, 1011, 2063, 2064, 2065, 1018, 2066, 2067, 2068, 2069, 1019, 2074, 2075, 2076, 2078, 1043, 1021, 2077, 1042, 1044, 1045, 1046, 1047, 2071, 2072, 2073, 2061, 2062, 1017, 2070, 1020, 2060, 2059] G G1) → (MI Γ w G1) → (x1 = 0 ∨ x1 = 1) → (x1 = 1 → TI w G1 ∧ RC Γ w G1 ∧ G.1 1010 w 0 < G1.1 1010 w 0) → Z p l e (zrm 5) s m args below meth c Γ 3 0 0 (MQ below (zQc Γ (zpi (fun x G' => zsm [1007, 1008, 1009, 1010, 1004, 1005, 1011, 2063, 2064, 2065, 1018, 2066, 2067, 2068, 2069, 1019, 2074, 2075, 2076, 2078, 1043, 1021, 2077, 1042, 1044, 1045, 1046, 1047, 2071, 2072, 2073, 2061, 2062, 1017, 2070, 1020, 2060, 2059] G G' ∧ ((x = 0 ∨ x = 1) ∧ MI Γ w G' ∧ (x = 1 → TI w G' ∧ RC Γ w G' ∧ G.1 1010 w 0 < G'.1 1010 w 0))))) args s 0 0 (zA Γ)) 321 [some (zr 10 w), some (zi x1), none] [] G1 := by
        intro x1 G1 h321_0 h321_1 h321_2 h321_3
        refine zs_iload_n (pc := 321) C dX9_lineRead_321 rfl ?_
        refine zs_if_ne (tgt := 327) (pc := 322) C dX9_lineRead_322 (by decide) (fun h322 => ?_) (fun h322 => ?_)
        · skip
          have hx := h321_3 (by omega)
          have hRC1 := hx.2.1
          have hat := hx.2.2
          have hTIz := hx.1
          have t1z := hTIz.1
          have t2z := hTIz.2.1
          have t3z := hTIz.2.2.1
          refine zs_aload_n (pc := 327) C dX9_lineRead_327 rfl ?_
          refine zs_bipush (pc := 328) C dX9_lineRead_328 (by decide) (by decide) ?_
          refine zVip1 (pc := 330) C dX9_lineRead_330 v_X9_233 (c_X9_isSign hX ) (by decide) (by decide) ⟨Nat.zero_le _, Nat.zero_le _⟩ (Nat.le_of_ble_eq_true rfl) (fun x330 l330 u330 hp330 => ?_)
          have hq330 := hp330
          refine zs_if_ne (tgt := 342) (pc := 333) C dX9_lineRead_333 (by decide) (fun h333 => ?_) (fun h333 => ?_)
          · skip
            refine zs_aload_n (pc := 342) C dX9_lineRead_342 rfl ?_
            refine zVv0 (pc := 343) C dX9_lineRead_343 v_X9_230 (c_X9_token hX (by omega)) (by decide) (by decide) ⟨Nat.zero_le _, Nat.zero_le _⟩ (Nat.le_of_ble_eq_true rfl) (fun G343 hp343 => ?_)
            obtain ⟨hz343, hq343⟩ := hp343
            have tr343_1006 := zsm_at hz343 1006 w 0 (by decide)
            try simp only [zuI_1, zuI_2, zuJ_1, zuJ_2, zuJ_3, zuP_1, zuP_2, zuP_3, zuC_1, zuC_2, reduceIte, Nat.reduceEqDiff, false_and, and_false, true_and, and_true, and_self, or_true, true_or, or_false, false_or] at tr343_1006
            have tr343_1017 := zsm_at hz343 1017 w 0 (by decide)
            try simp only [zuI_1, zuI_2, zuJ_1, zuJ_2, zuJ_3, zuP_1, zuP_2, zuP_3, zuC_1, zuC_2, reduceIte, Nat.reduceEqDiff, false_and, and_false, true_and, and_true, and_self, or_true, true_or, or_false, false_or] at tr343_1017
            have tr343_1020 := zsm_at hz343 1020 w 0 (by decide)
            try simp only [zuI_1, zuI_2, zuJ_1, zuJ_2, zuJ_3, zuP_1, zuP_2, zuP_3, zuC_1, zuC_2, reduceIte, Nat.reduceEqDiff, false_and, and_false, true_and, and_true, and_self, or_true, true_or, or_false, false_or] at tr343_1020
            have hTI := hq343.1
            refine zs_iconst (pc := 346) C dX9_lineRead_346 (by decide) ?_
            exact zs_zret (pc := 347) C hr hlk dX9_lineRead_347 (by omega) ⟨by repeat (first | exact zsm_rf | assumption | refine zsm_C (by decide) ?_ | refine zsm_I (by decide) ?_ | refine zsm_J ?_ | refine zsm_c (by assumption) (by decide) ?_), ⟨by omega, (by repeat (first | assumption | refine MI_I (by decide) ?_ | refine MI_J ?_ | refine MI_sm (by assumption) (by decide) ?_ | refine MI_sn (by assumption) (by decide) ?_)), fun q => by first | (exfalso; omega) | exact ⟨(by repeat (first | assumption | refine TI_I (by decide) ?_ | refine TI_sm (by assumption) (by decide) ?_)), (by repeat (first | assumption | refine RC_I (by decide) ?_ | refine RC_sm (by assumption) (by decide) ?_)), (by first | omega | (simp only [zuI_1, zuI_2, zuJ_1, zuJ_2, zuJ_3, zuP_1, zuP_2, zuP_3, zuC_1, zuC_2, reduceIte, Nat.reduceEqDiff, false_and, and_false, true_and, and_true, and_self, or_true, true_or, or_false, false_or]; omega))⟩⟩⟩
          · skip
            refine zs_aload_n (pc := 336) C dX9_lineRead_336 rfl ?_
            refine zs_iconst (pc := 337) C dX9_lineRead_337 (by decide) ?_
            refine zVi1 (pc := 338) C dX9_lineRead_338 v_X9_220 (c_X9_wrong hX ) (by decide) (by decide) ⟨Nat.zero_le _, Nat.zero_le _⟩ (Nat.le_of_ble_eq_true rfl) (fun x338 G338 l338 u338 hp338 => ?_)
            obtain ⟨hz338, hq338⟩ := hp338
            have tr338_1007 := zsm_at hz338 1007 w 0 (by decide)
            try simp only [zuI_1, zuI_2, zuJ_1, zuJ_2, zuJ_3, zuP_1, zuP_2, zuP_3, zuC_1, zuC_2, reduceIte, Nat.reduceEqDiff, false_and, and_false, true_and, and_true, and_self, or_true, true_or, or_false, false_or] at tr338_1007
            have tr338_1010 := zsm_at hz338 1010 w 0 (by decide)
            try simp only [zuI_1, zuI_2, zuJ_1, zuJ_2, zuJ_3, zuP_1, zuP_2, zuP_3, zuC_1, zuC_2, reduceIte, Nat.reduceEqDiff, false_and, and_false, true_and, and_true, and_self, or_true, true_or, or_false, false_or] at tr338_1010
            have tr338_1006 := zsm_at hz338 1006 w 0 (by decide)
            try simp only [zuI_1, zuI_2, zuJ_1, zuJ_2, zuJ_3, zuP_1, zuP_2, zuP_3, zuC_1, zuC_2, reduceIte, Nat.reduceEqDiff, false_and, and_false, true_and, and_true, and_self, or_true, true_or, or_false, false_or] at tr338_1006
            have tr338_1017 := zsm_at hz338 1017 w 0 (by decide)
            try simp only [zuI_1, zuI_2, zuJ_1, zuJ_2, zuJ_3, zuP_1, zuP_2, zuP_3, zuC_1, zuC_2, reduceIte, Nat.reduceEqDiff, false_and, and_false, true_and, and_true, and_self, or_true, true_or, or_false, false_or] at tr338_1017
            have tr338_1020 := zsm_at hz338 1020 w 0 (by decide)
            try simp only [zuI_1, zuI_2, zuJ_1, zuJ_2, zuJ_3, zuP_1, zuP_2, zuP_3, zuC_1, zuC_2, reduceIte, Nat.reduceEqDiff, false_and, and_false, true_and, and_true, and_self, or_true, true_or, or_false, false_or] at tr338_1020
            exact zs_zret (pc := 341) C hr hlk dX9_lineRead_341 (by omega) ⟨by repeat (first | exact zsm_rf | assumption | refine zsm_C (by decide) ?_ | refine zsm_I (by decide) ?_ | refine zsm_J ?_ | refine zsm_c (by assumption) (by decide) ?_), ⟨by omega, (by repeat (first | assumption | refine MI_I (by decide) ?_ | refine MI_J ?_ | refine MI_sm (by assumption) (by decide) ?_ | refine MI_sn (by assumption) (by decide) ?_)), fun q => by first | (exfalso; omega) | exact ⟨(by repeat (first | assumption | refine TI_I (by decide) ?_ | refine TI_sm (by assumption) (by decide) ?_)), (by repeat (first | assumption | refine RC_I (by decide) ?_ | refine RC_sm (by assumption) (by decide) ?_)), (by first | omega | (simp only [zuI_1, zuI_2, zuJ_1, zuJ_2, zuJ_3, zuP_1, zuP_2, zuP_3, zuC_1, zuC_2, reduceIte, Nat.reduceEqDiff, false_and, and_false, true_and, and_true, and_self, or_true, true_or, or_false, false_or]; omega))⟩⟩⟩
        · skip
          refine zs_iconst (pc := 325) C dX9_lineRead_325 (by decide) ?_
          exact zs_zret (pc := 326) C hr hlk dX9_lineRead_326 (by omega) ⟨by repeat (first | exact zsm_rf | assumption | refine zsm_C (by decide) ?_ | refine zsm_I (by decide) ?_ | refine zsm_J ?_ | refine zsm_c (by assumption) (by decide) ?_), ⟨by omega, (by repeat (first | assumption | refine MI_I (by decide) ?_ | refine MI_J ?_ | refine MI_sm (by assumption) (by decide) ?_ | refine MI_sn (by assumption) (by decide) ?_)), fun q => by first | (exfalso; omega) | exact ⟨(by repeat (first | assumption | refine TI_I (by decide) ?_ | refine TI_sm (by assumption) (by decide) ?_)), (by repeat (first | assumption | refine RC_I (by decide) ?_ | refine RC_sm (by assumption) (by decide) ?_)), (by first | omega | (simp only [zuI_1, zuI_2, zuJ_1, zuJ_2, zuJ_3, zuP_1, zuP_2, zuP_3, zuC_1, zuC_2, reduceIte, Nat.reduceEqDiff, false_and, and_false, true_and, and_true, and_self, or_true, true_or, or_false, false_or]; omega))⟩⟩⟩
      refine zs_aload_n (pc := 23) C dX9_lineRead_23 rfl ?_
      refine zs_geti (r := 1009) (pc := 24) C dX9_lineRead_24 w_X9_207 f_10_9 rfl (r_1009 0) (fun v24 e24 l24 u24 => ?_)
      refine zs_name (fun y27 ey27 => ?_)
      rcases (show y27 = 0 ∨ y27 = 1 ∨ y27 = 2 ∨ y27 = 3 ∨ y27 = 4 ∨ y27 = 5 ∨ y27 = 6 ∨ y27 = 7 ∨ y27 = 8 ∨ (y27 < 0 ∨ 8 < y27) by omega) with h27 | h27 | h27 | h27 | h27 | h27 | h27 | h27 | h27 | h27
      · skip
        refine zs_tabIn (pc := 27) (tgt := 76) C 0 dX9_lineRead_27 h27 (by decide) rfl (by decide) ?_
        refine zs_aload_n (pc := 76) C dX9_lineRead_76 rfl ?_
        refine zs_geti (r := 1017) (pc := 77) C dX9_lineRead_77 w_X9_240 f_10_17 rfl (r_1017 0) (fun v77 e77 l77 u77 => ?_)
        refine zs_iconst (pc := 80) C dX9_lineRead_80 (by decide) ?_
        refine zs_icmp_ne (tgt := 90) (pc := 81) C dX9_lineRead_81 (by decide) (fun h81 => ?_) (fun h81 => ?_)
        · skip
          refine zs_aload_n (pc := 90) C dX9_lineRead_90 rfl ?_
          refine zVv0 (pc := 91) C dX9_lineRead_91 v_X9_230 (c_X9_token hX (by omega)) (by decide) (by decide) ⟨Nat.zero_le _, Nat.zero_le _⟩ (Nat.le_of_ble_eq_true rfl) (fun G91 hp91 => ?_)
          obtain ⟨hz91, hq91⟩ := hp91
          have tr91_1006 := zsm_at hz91 1006 w 0 (by decide)
          try simp only [zuI_1, zuI_2, zuJ_1, zuJ_2, zuJ_3, zuP_1, zuP_2, zuP_3, zuC_1, zuC_2, reduceIte, Nat.reduceEqDiff, false_and, and_false, true_and, and_true, and_self, or_true, true_or, or_false, false_or] at tr91_1006
          have tr91_1017 := zsm_at hz91 1017 w 0 (by decide)
          try simp only [zuI_1, zuI_2, zuJ_1, zuJ_2, zuJ_3, zuP_1, zuP_2, zuP_3, zuC_1, zuC_2, reduceIte, Nat.reduceEqDiff, false_and, and_false, true_and, and_true, and_self, or_true, true_or, or_false, false_or] at tr91_1017
          have tr91_1020 := zsm_at hz91 1020 w 0 (by decide)
          try simp only [zuI_1, zuI_2, zuJ_1, zuJ_2, zuJ_3, zuP_1, zuP_2, zuP_3, zuC_1, zuC_2, reduceIte, Nat.reduceEqDiff, false_and, and_false, true_and, and_true, and_self, or_true, true_or, or_false, false_or] at tr91_1020
          have hTI := hq91.1
          refine zs_aload_n (pc := 94) C dX9_lineRead_94 rfl ?_
          refine zs_aload_n (pc := 95) C dX9_lineRead_95 rfl ?_
          refine zs_getf (pc := 96) C dX9_lineRead_96 w_X9_27 f_10_24 (by decide) ?_
          refine zs_iconst (pc := 99) C dX9_lineRead_99 (by decide) ?_
          refine zs_aload_n (pc := 100) C dX9_lineRead_100 rfl ?_
          refine zs_geti (r := 1017) (pc := 101) C dX9_lineRead_101 w_X9_240 f_10_17 rfl (r_1017 0) (fun v101 e101 l101 u101 => ?_)
          refine zVi3 (pc := 104) C dX9_lineRead_104 v_X9_284 (c_X9_newName61 hX (by repeat (first | assumption | refine TI_I (by decide) ?_ | refine TI_sm (by assumption) (by decide) ?_)) (by omega)) (by decide) (by decide) ⟨Nat.zero_le _, Nat.zero_le _⟩ (Nat.le_of_ble_eq_true rfl) (fun x104 G104 l104 u104 hp104 => ?_)
          obtain ⟨hz104, hq104⟩ := hp104
          have tr104_1006 := zsm_at hz104 1006 w 0 (by decide)
          try simp only [zuI_1, zuI_2, zuJ_1, zuJ_2, zuJ_3, zuP_1, zuP_2, zuP_3, zuC_1, zuC_2, reduceIte, Nat.reduceEqDiff, false_and, and_false, true_and, and_true, and_self, or_true, true_or, or_false, false_or] at tr104_1006
          have tr104_1017 := zsm_at hz104 1017 w 0 (by decide)
          try simp only [zuI_1, zuI_2, zuJ_1, zuJ_2, zuJ_3, zuP_1, zuP_2, zuP_3, zuC_1, zuC_2, reduceIte, Nat.reduceEqDiff, false_and, and_false, true_and, and_true, and_self, or_true, true_or, or_false, false_or] at tr104_1017
          have tr104_1020 := zsm_at hz104 1020 w 0 (by decide)
          try simp only [zuI_1, zuI_2, zuJ_1, zuJ_2, zuJ_3, zuP_1, zuP_2, zuP_3, zuC_1, zuC_2, reduceIte, Nat.reduceEqDiff, false_and, and_false, true_and, and_true, and_self, or_true, true_or, or_false, false_or] at tr104_1020
          refine zs_if_eq (tgt := 120) (pc := 107) C dX9_lineRead_107 (by decide) (fun h107 => ?_) (fun h107 => ?_)
          · skip
            refine zs_iconst (pc := 120) C dX9_lineRead_120 (by decide) ?_
            exact zs_zret (pc := 121) C hr hlk dX9_lineRead_121 (by omega) ⟨by repeat (first | exact zsm_rf | assumption | refine zsm_C (by decide) ?_ | refine zsm_I (by decide) ?_ | refine zsm_J ?_ | refine zsm_c (by assumption) (by decide) ?_), ⟨by omega, (by repeat (first | assumption | refine MI_I (by decide) ?_ | refine MI_J ?_ | refine MI_sm (by assumption) (by decide) ?_ | refine MI_sn (by assumption) (by decide) ?_)), fun q => by first | (exfalso; omega) | exact ⟨(by repeat (first | assumption | refine TI_I (by decide) ?_ | refine TI_sm (by assumption) (by decide) ?_)), (by repeat (first | assumption | refine RC_I (by decide) ?_ | refine RC_sm (by assumption) (by decide) ?_)), (by first | omega | (simp only [zuI_1, zuI_2, zuJ_1, zuJ_2, zuJ_3, zuP_1, zuP_2, zuP_3, zuC_1, zuC_2, reduceIte, Nat.reduceEqDiff, false_and, and_false, true_and, and_true, and_self, or_true, true_or, or_false, false_or]; omega))⟩⟩⟩
          · skip
            refine zs_aload_n (pc := 110) C dX9_lineRead_110 rfl ?_
            refine zs_iconst (pc := 111) C dX9_lineRead_111 (by decide) ?_
            refine zs_bipush (pc := 112) C dX9_lineRead_112 (by decide) (by decide) ?_
            refine zVi2 (pc := 114) C dX9_lineRead_114 v_X9_236 (c_X9_number hX (hq104.2 (by omega)).1) (by decide) (by decide) ⟨Nat.zero_le _, Nat.zero_le _⟩ (Nat.le_of_ble_eq_true rfl) (fun x114 G114 l114 u114 hp114 => ?_)
            obtain ⟨hz114, hq114⟩ := hp114
            have tr114_1006 := zsm_at hz114 1006 w 0 (by decide)
            try simp only [zuI_1, zuI_2, zuJ_1, zuJ_2, zuJ_3, zuP_1, zuP_2, zuP_3, zuC_1, zuC_2, reduceIte, Nat.reduceEqDiff, false_and, and_false, true_and, and_true, and_self, or_true, true_or, or_false, false_or] at tr114_1006
            have tr114_1017 := zsm_at hz114 1017 w 0 (by decide)
            try simp only [zuI_1, zuI_2, zuJ_1, zuJ_2, zuJ_3, zuP_1, zuP_2, zuP_3, zuC_1, zuC_2, reduceIte, Nat.reduceEqDiff, false_and, and_false, true_and, and_true, and_self, or_true, true_or, or_false, false_or] at tr114_1017
            have tr114_1020 := zsm_at hz114 1020 w 0 (by decide)
            try simp only [zuI_1, zuI_2, zuJ_1, zuJ_2, zuJ_3, zuP_1, zuP_2, zuP_3, zuC_1, zuC_2, reduceIte, Nat.reduceEqDiff, false_and, and_false, true_and, and_true, and_self, or_true, true_or, or_false, false_or] at tr114_1020
            refine zs_if_ne (tgt := 122) (pc := 117) C dX9_lineRead_117 (by decide) (fun h117 => ?_) (fun h117 => ?_)
            · skip
              have hy := hq114.2 (by omega)
              have hTI2 := hy.2.2.1
              have hy2 := (hq104.2 (by omega)).2
              refine zs_aload_n (pc := 122) C dX9_lineRead_122 rfl ?_
              refine zs_getf (pc := 123) C dX9_lineRead_123 w_X9_30 f_10_25 (by decide) ?_
              refine zs_iconst (pc := 126) C dX9_lineRead_126 (by decide) ?_
              refine zs_aload_n (pc := 127) C dX9_lineRead_127 rfl ?_
              refine zs_geti (r := 1017) (pc := 128) C dX9_lineRead_128 w_X9_240 f_10_17 rfl (r_1017 0) (fun v128 e128 l128 u128 => ?_)
              first | refine zs_iadd (pc := 131) C dX9_lineRead_131 (by omega) ?_ | refine zs_iaddF (pc := 131) C dX9_lineRead_131 (fun z131 hz1311 hz1312 => ?_)
              refine zs_aload_n (pc := 132) C dX9_lineRead_132 rfl ?_
              refine zs_geti (r := 1011) (pc := 133) C dX9_lineRead_133 w_X9_227 f_10_11 rfl (r_1011 0) (fun v133 e133 l133 u133 => ?_)
              refine zs_iast (r := 2062) (pc := 136) C dX9_lineRead_136 a_62 (by decide) (by omega) rfl (r_2062 _) (by omega) ?_
              refine zs_aload_n (pc := 137) C dX9_lineRead_137 rfl ?_
              refine zs_dupa (pc := 138) C dX9_lineRead_138 ?_
              refine zs_geti (r := 1017) (pc := 139) C dX9_lineRead_139 w_X9_240 f_10_17 rfl (r_1017 0) (fun v139 e139 l139 u139 => ?_)
              try simp only [zuI_1, zuI_2, zuJ_1, zuJ_2, zuJ_3, zuP_1, zuP_2, zuP_3, zuC_1, zuC_2, reduceIte, Nat.reduceEqDiff, false_and, and_false, true_and, and_true, and_self, or_true, true_or, or_false, false_or] at e139
              refine zs_iconst (pc := 142) C dX9_lineRead_142 (by decide) ?_
              first | refine zs_iadd (pc := 143) C dX9_lineRead_143 (by omega) ?_ | refine zs_iaddF (pc := 143) C dX9_lineRead_143 (fun z143 hz1431 hz1432 => ?_)
              refine zs_puti (r := 1017) (pc := 144) C dX9_lineRead_144 w_X9_240 f_10_17 rfl (r_1017 0) (by omega) ?_
              refine zs_iconst (pc := 147) C dX9_lineRead_147 (by decide) ?_
              refine zs_istore_n (pc := 148) C dX9_lineRead_148 (by decide) ?_
              dsimp only [zset, zclr, znone]
              refine zs_goto (tgt := 321) (pc := 149) C dX9_lineRead_149 (by decide) ?_
              exact zs_wk (J321 _ _ (by repeat (first | exact zsm_rf | assumption | refine zsm_C (by decide) ?_ | refine zsm_I (by decide) ?_ | refine zsm_J ?_ | refine zsm_c (by assumption) (by decide) ?_)) (by repeat (first | assumption | refine MI_I (by decide) ?_ | refine MI_J ?_ | refine MI_sm (by assumption) (by decide) ?_ | refine MI_sn (by assumption) (by decide) ?_)) (by omega) (fun q => by first | (exfalso; omega) | exact ⟨(hxx q).1, (hxx q).2.1, by have hxy := (hxx q).2.2; omega⟩ | exact ⟨(hxx q).1, (by repeat (first | assumption | refine RC_I (by decide) ?_ | refine RC_sm (by assumption) (by decide) ?_)), (hxx q).2⟩ | exact ⟨(by repeat (first | assumption | refine TI_I (by decide) ?_ | refine TI_sm (by assumption) (by decide) ?_)), (by repeat (first | assumption | refine RC_I (by decide) ?_ | refine RC_sm (by assumption) (by decide) ?_)), (by first | omega | (simp only [zuI_1, zuI_2, zuJ_1, zuJ_2, zuJ_3, zuP_1, zuP_2, zuP_3, zuC_1, zuC_2, reduceIte, Nat.reduceEqDiff, false_and, and_false, true_and, and_true, and_self, or_true, true_or, or_false, false_or]; omega))⟩)) (zwk_s rfl (zwk_s rfl (zwk_n zwk_0)))
            · skip
              refine zs_iconst (pc := 120) C dX9_lineRead_120 (by decide) ?_
              exact zs_zret (pc := 121) C hr hlk dX9_lineRead_121 (by omega) ⟨by repeat (first | exact zsm_rf | assumption | refine zsm_C (by decide) ?_ | refine zsm_I (by decide) ?_ | refine zsm_J ?_ | refine zsm_c (by assumption) (by decide) ?_), ⟨by omega, (by repeat (first | assumption | refine MI_I (by decide) ?_ | refine MI_J ?_ | refine MI_sm (by assumption) (by decide) ?_ | refine MI_sn (by assumption) (by decide) ?_)), fun q => by first | (exfalso; omega) | exact ⟨(by repeat (first | assumption | refine TI_I (by decide) ?_ | refine TI_sm (by assumption) (by decide) ?_)), (by repeat (first | assumption | refine RC_I (by decide) ?_ | refine RC_sm (by assumption) (by decide) ?_)), (by first | omega | (simp only [zuI_1, zuI_2, zuJ_1, zuJ_2, zuJ_3, zuP_1, zuP_2, zuP_3, zuC_1, zuC_2, reduceIte, Nat.reduceEqDiff, false_and, and_false, true_and, and_true, and_self, or_true, true_or, or_false, false_or]; omega))⟩⟩⟩
        · skip
          refine zs_aload_n (pc := 84) C dX9_lineRead_84 rfl ?_
          refine zs_iconst (pc := 85) C dX9_lineRead_85 (by decide) ?_
          refine zVi1 (pc := 86) C dX9_lineRead_86 v_X9_220 (c_X9_wrong hX ) (by decide) (by decide) ⟨Nat.zero_le _, Nat.zero_le _⟩ (Nat.le_of_ble_eq_true rfl) (fun x86 G86 l86 u86 hp86 => ?_)
          obtain ⟨hz86, hq86⟩ := hp86
          have tr86_1007 := zsm_at hz86 1007 w 0 (by decide)
          try simp only [zuI_1, zuI_2, zuJ_1, zuJ_2, zuJ_3, zuP_1, zuP_2, zuP_3, zuC_1, zuC_2, reduceIte, Nat.reduceEqDiff, false_and, and_false, true_and, and_true, and_self, or_true, true_or, or_false, false_or] at tr86_1007
          have tr86_1010 := zsm_at hz86 1010 w 0 (by decide)
          try simp only [zuI_1, zuI_2, zuJ_1, zuJ_2, zuJ_3, zuP_1, zuP_2, zuP_3, zuC_1, zuC_2, reduceIte, Nat.reduceEqDiff, false_and, and_false, true_and, and_true, and_self, or_true, true_or, or_false, false_or] at tr86_1010
          have tr86_1006 := zsm_at hz86 1006 w 0 (by decide)
          try simp only [zuI_1, zuI_2, zuJ_1, zuJ_2, zuJ_3, zuP_1, zuP_2, zuP_3, zuC_1, zuC_2, reduceIte, Nat.reduceEqDiff, false_and, and_false, true_and, and_true, and_self, or_true, true_or, or_false, false_or] at tr86_1006
          have tr86_1017 := zsm_at hz86 1017 w 0 (by decide)
          try simp only [zuI_1, zuI_2, zuJ_1, zuJ_2, zuJ_3, zuP_1, zuP_2, zuP_3, zuC_1, zuC_2, reduceIte, Nat.reduceEqDiff, false_and, and_false, true_and, and_true, and_self, or_true, true_or, or_false, false_or] at tr86_1017
          have tr86_1020 := zsm_at hz86 1020 w 0 (by decide)
          try simp only [zuI_1, zuI_2, zuJ_1, zuJ_2, zuJ_3, zuP_1, zuP_2, zuP_3, zuC_1, zuC_2, reduceIte, Nat.reduceEqDiff, false_and, and_false, true_and, and_true, and_self, or_true, true_or, or_false, false_or] at tr86_1020
          exact zs_zret (pc := 89) C hr hlk dX9_lineRead_89 (by omega) ⟨by repeat (first | exact zsm_rf | assumption | refine zsm_C (by decide) ?_ | refine zsm_I (by decide) ?_ | refine zsm_J ?_ | refine zsm_c (by assumption) (by decide) ?_), ⟨by omega, (by repeat (first | assumption | refine MI_I (by decide) ?_ | refine MI_J ?_ | refine MI_sm (by assumption) (by decide) ?_ | refine MI_sn (by assumption) (by decide) ?_)), fun q => by first | (exfalso; omega) | exact ⟨(by repeat (first | assumption | refine TI_I (by decide) ?_ | refine TI_sm (by assumption) (by decide) ?_)), (by repeat (first | assumption | refine RC_I (by decide) ?_ | refine RC_sm (by assumption) (by decide) ?_)), (by first | omega | (simp only [zuI_1, zuI_2, zuJ_1, zuJ_2, zuJ_3, zuP_1, zuP_2, zuP_3, zuC_1, zuC_2, reduceIte, Nat.reduceEqDiff, false_and, and_false, true_and, and_true, and_self, or_true, true_or, or_false, false_or]; omega))⟩⟩⟩
      · skip
        refine zs_tabIn (pc := 27) (tgt := 152) C 1 dX9_lineRead_27 h27 (by decide) rfl (by decide) ?_
        refine zs_aload_n (pc := 152) C dX9_lineRead_152 rfl ?_
        refine zVi0 (pc := 153) C dX9_lineRead_153 v_X9_295 (c_X9_personLine hX (by repeat (first | assumption | refine TI_I (by decide) ?_ | refine TI_sm (by assumption) (by decide) ?_)) (by omega)) (by decide) (by decide) ⟨Nat.zero_le _, Nat.zero_le _⟩ (Nat.le_of_ble_eq_true rfl) (fun x153 G153 l153 u153 hp153 => ?_)
        obtain ⟨hz153, hq153⟩ := hp153
        have tr153_1006 := zsm_at hz153 1006 w 0 (by decide)
        try simp only [zuI_1, zuI_2, zuJ_1, zuJ_2, zuJ_3, zuP_1, zuP_2, zuP_3, zuC_1, zuC_2, reduceIte, Nat.reduceEqDiff, false_and, and_false, true_and, and_true, and_self, or_true, true_or, or_false, false_or] at tr153_1006
        have tr153_1017 := zsm_at hz153 1017 w 0 (by decide)
        try simp only [zuI_1, zuI_2, zuJ_1, zuJ_2, zuJ_3, zuP_1, zuP_2, zuP_3, zuC_1, zuC_2, reduceIte, Nat.reduceEqDiff, false_and, and_false, true_and, and_true, and_self, or_true, true_or, or_false, false_or] at tr153_1017
        have tr153_1020 := zsm_at hz153 1020 w 0 (by decide)
        try simp only [zuI_1, zuI_2, zuJ_1, zuJ_2, zuJ_3, zuP_1, zuP_2, zuP_3, zuC_1, zuC_2, reduceIte, Nat.reduceEqDiff, false_and, and_false, true_and, and_true, and_self, or_true, true_or, or_false, false_or] at tr153_1020
        have hxx := hq153.2
        refine zs_istore_n (pc := 156) C dX9_lineRead_156 (by decide) ?_
        dsimp only [zset, zclr, znone]
        refine zs_goto (tgt := 321) (pc := 157) C dX9_lineRead_157 (by decide) ?_
        exact zs_wk (J321 _ _ (by repeat (first | exact zsm_rf | assumption | refine zsm_C (by decide) ?_ | refine zsm_I (by decide) ?_ | refine zsm_J ?_ | refine zsm_c (by assumption) (by decide) ?_)) (by repeat (first | assumption | refine MI_I (by decide) ?_ | refine MI_J ?_ | refine MI_sm (by assumption) (by decide) ?_ | refine MI_sn (by assumption) (by decide) ?_)) (by omega) (fun q => by first | (exfalso; omega) | exact ⟨(hxx q).1, (hxx q).2.1, by have hxy := (hxx q).2.2; omega⟩ | exact ⟨(hxx q).1, (by repeat (first | assumption | refine RC_I (by decide) ?_ | refine RC_sm (by assumption) (by decide) ?_)), (hxx q).2⟩ | exact ⟨(by repeat (first | assumption | refine TI_I (by decide) ?_ | refine TI_sm (by assumption) (by decide) ?_)), (by repeat (first | assumption | refine RC_I (by decide) ?_ | refine RC_sm (by assumption) (by decide) ?_)), (by first | omega | (simp only [zuI_1, zuI_2, zuJ_1, zuJ_2, zuJ_3, zuP_1, zuP_2, zuP_3, zuC_1, zuC_2, reduceIte, Nat.reduceEqDiff, false_and, and_false, true_and, and_true, and_self, or_true, true_or, or_false, false_or]; omega))⟩)) (zwk_s rfl (zwk_s rfl (zwk_n zwk_0)))
      · skip
        refine zs_tabIn (pc := 27) (tgt := 160) C 2 dX9_lineRead_27 h27 (by decide) rfl (by decide) ?_
        refine zs_aload_n (pc := 160) C dX9_lineRead_160 rfl ?_
        refine zVi0 (pc := 161) C dX9_lineRead_161 v_X9_298 (c_X9_cakeLine hX (by repeat (first | assumption | refine TI_I (by decide) ?_ | refine TI_sm (by assumption) (by decide) ?_)) (by omega)) (by decide) (by decide) ⟨Nat.zero_le _, Nat.zero_le _⟩ (Nat.le_of_ble_eq_true rfl) (fun x161 G161 l161 u161 hp161 => ?_)
        obtain ⟨hz161, hq161⟩ := hp161
        have tr161_1006 := zsm_at hz161 1006 w 0 (by decide)
        try simp only [zuI_1, zuI_2, zuJ_1, zuJ_2, zuJ_3, zuP_1, zuP_2, zuP_3, zuC_1, zuC_2, reduceIte, Nat.reduceEqDiff, false_and, and_false, true_and, and_true, and_self, or_true, true_or, or_false, false_or] at tr161_1006
        have tr161_1017 := zsm_at hz161 1017 w 0 (by decide)
        try simp only [zuI_1, zuI_2, zuJ_1, zuJ_2, zuJ_3, zuP_1, zuP_2, zuP_3, zuC_1, zuC_2, reduceIte, Nat.reduceEqDiff, false_and, and_false, true_and, and_true, and_self, or_true, true_or, or_false, false_or] at tr161_1017
        have tr161_1020 := zsm_at hz161 1020 w 0 (by decide)
        try simp only [zuI_1, zuI_2, zuJ_1, zuJ_2, zuJ_3, zuP_1, zuP_2, zuP_3, zuC_1, zuC_2, reduceIte, Nat.reduceEqDiff, false_and, and_false, true_and, and_true, and_self, or_true, true_or, or_false, false_or] at tr161_1020
        have hxx := hq161.2
        refine zs_istore_n (pc := 164) C dX9_lineRead_164 (by decide) ?_
        dsimp only [zset, zclr, znone]
        refine zs_goto (tgt := 321) (pc := 165) C dX9_lineRead_165 (by decide) ?_
        exact zs_wk (J321 _ _ (by repeat (first | exact zsm_rf | assumption | refine zsm_C (by decide) ?_ | refine zsm_I (by decide) ?_ | refine zsm_J ?_ | refine zsm_c (by assumption) (by decide) ?_)) (by repeat (first | assumption | refine MI_I (by decide) ?_ | refine MI_J ?_ | refine MI_sm (by assumption) (by decide) ?_ | refine MI_sn (by assumption) (by decide) ?_)) (by omega) (fun q => by first | (exfalso; omega) | exact ⟨(hxx q).1, (hxx q).2.1, by have hxy := (hxx q).2.2; omega⟩ | exact ⟨(hxx q).1, (by repeat (first | assumption | refine RC_I (by decide) ?_ | refine RC_sm (by assumption) (by decide) ?_)), (hxx q).2⟩ | exact ⟨(by repeat (first | assumption | refine TI_I (by decide) ?_ | refine TI_sm (by assumption) (by decide) ?_)), (by repeat (first | assumption | refine RC_I (by decide) ?_ | refine RC_sm (by assumption) (by decide) ?_)), (by first | omega | (simp only [zuI_1, zuI_2, zuJ_1, zuJ_2, zuJ_3, zuP_1, zuP_2, zuP_3, zuC_1, zuC_2, reduceIte, Nat.reduceEqDiff, false_and, and_false, true_and, and_true, and_self, or_true, true_or, or_false, false_or]; omega))⟩)) (zwk_s rfl (zwk_s rfl (zwk_n zwk_0)))
      · skip
        refine zs_tabIn (pc := 27) (tgt := 310) C 3 dX9_lineRead_27 h27 (by decide) rfl (by decide) ?_
        refine zs_aload_n (pc := 310) C dX9_lineRead_310 rfl ?_
        refine zs_aload_n (pc := 311) C dX9_lineRead_311 rfl ?_
        refine zs_geti (r := 1009) (pc := 312) C dX9_lineRead_312 w_X9_207 f_10_9 rfl (r_1009 0) (fun v312 e312 l312 u312 => ?_)
        refine zs_iconst (pc := 315) C dX9_lineRead_315 (by decide) ?_
        first | refine zs_isub (pc := 316) C dX9_lineRead_316 (by omega) ?_ | refine zs_isubF (pc := 316) C dX9_lineRead_316 (fun z316 hz3161 hz3162 => ?_)
        refine zVi1 (pc := 317) C dX9_lineRead_317 v_X9_304 (c_X9_onceLine hX (by repeat (first | assumption | refine TI_I (by decide) ?_ | refine TI_sm (by assumption) (by decide) ?_)) (by omega) (by omega)) (by decide) (by decide) ⟨Nat.zero_le _, Nat.zero_le _⟩ (Nat.le_of_ble_eq_true rfl) (fun x317 G317 l317 u317 hp317 => ?_)
        obtain ⟨hz317, hq317⟩ := hp317
        have tr317_1006 := zsm_at hz317 1006 w 0 (by decide)
        try simp only [zuI_1, zuI_2, zuJ_1, zuJ_2, zuJ_3, zuP_1, zuP_2, zuP_3, zuC_1, zuC_2, reduceIte, Nat.reduceEqDiff, false_and, and_false, true_and, and_true, and_self, or_true, true_or, or_false, false_or] at tr317_1006
        have tr317_1017 := zsm_at hz317 1017 w 0 (by decide)
        try simp only [zuI_1, zuI_2, zuJ_1, zuJ_2, zuJ_3, zuP_1, zuP_2, zuP_3, zuC_1, zuC_2, reduceIte, Nat.reduceEqDiff, false_and, and_false, true_and, and_true, and_self, or_true, true_or, or_false, false_or] at tr317_1017
        have tr317_1020 := zsm_at hz317 1020 w 0 (by decide)
        try simp only [zuI_1, zuI_2, zuJ_1, zuJ_2, zuJ_3, zuP_1, zuP_2, zuP_3, zuC_1, zuC_2, reduceIte, Nat.reduceEqDiff, false_and, and_false, true_and, and_true, and_self, or_true, true_or, or_false, false_or] at tr317_1020
        have hxx := hq317.2
        refine zs_istore_n (pc := 320) C dX9_lineRead_320 (by decide) ?_
        dsimp only [zset, zclr, znone]
        exact zs_wk (J321 _ _ (by repeat (first | exact zsm_rf | assumption | refine zsm_C (by decide) ?_ | refine zsm_I (by decide) ?_ | refine zsm_J ?_ | refine zsm_c (by assumption) (by decide) ?_)) (by repeat (first | assumption | refine MI_I (by decide) ?_ | refine MI_J ?_ | refine MI_sm (by assumption) (by decide) ?_ | refine MI_sn (by assumption) (by decide) ?_)) (by omega) (fun q => by first | (exfalso; omega) | exact ⟨(hxx q).1, (hxx q).2.1, by have hxy := (hxx q).2.2; omega⟩ | exact ⟨(hxx q).1, (by repeat (first | assumption | refine RC_I (by decide) ?_ | refine RC_sm (by assumption) (by decide) ?_)), (hxx q).2⟩ | exact ⟨(by repeat (first | assumption | refine TI_I (by decide) ?_ | refine TI_sm (by assumption) (by decide) ?_)), (by repeat (first | assumption | refine RC_I (by decide) ?_ | refine RC_sm (by assumption) (by decide) ?_)), (by first | omega | (simp only [zuI_1, zuI_2, zuJ_1, zuJ_2, zuJ_3, zuP_1, zuP_2, zuP_3, zuC_1, zuC_2, reduceIte, Nat.reduceEqDiff, false_and, and_false, true_and, and_true, and_self, or_true, true_or, or_false, false_or]; omega))⟩)) (zwk_s rfl (zwk_s rfl (zwk_n zwk_0)))
      · skip
        refine zs_tabIn (pc := 27) (tgt := 310) C 4 dX9_lineRead_27 h27 (by decide) rfl (by decide) ?_
        refine zs_aload_n (pc := 310) C dX9_lineRead_310 rfl ?_
        refine zs_aload_n (pc := 311) C dX9_lineRead_311 rfl ?_
        refine zs_geti (r := 1009) (pc := 312) C dX9_lineRead_312 w_X9_207 f_10_9 rfl (r_1009 0) (fun v312 e312 l312 u312 => ?_)
        refine zs_iconst (pc := 315) C dX9_lineRead_315 (by decide) ?_
        first | refine zs_isub (pc := 316) C dX9_lineRead_316 (by omega) ?_ | refine zs_isubF (pc := 316) C dX9_lineRead_316 (fun z316 hz3161 hz3162 => ?_)
        refine zVi1 (pc := 317) C dX9_lineRead_317 v_X9_304 (c_X9_onceLine hX (by repeat (first | assumption | refine TI_I (by decide) ?_ | refine TI_sm (by assumption) (by decide) ?_)) (by omega) (by omega)) (by decide) (by decide) ⟨Nat.zero_le _, Nat.zero_le _⟩ (Nat.le_of_ble_eq_true rfl) (fun x317 G317 l317 u317 hp317 => ?_)
        obtain ⟨hz317, hq317⟩ := hp317
        have tr317_1006 := zsm_at hz317 1006 w 0 (by decide)
        try simp only [zuI_1, zuI_2, zuJ_1, zuJ_2, zuJ_3, zuP_1, zuP_2, zuP_3, zuC_1, zuC_2, reduceIte, Nat.reduceEqDiff, false_and, and_false, true_and, and_true, and_self, or_true, true_or, or_false, false_or] at tr317_1006
        have tr317_1017 := zsm_at hz317 1017 w 0 (by decide)
        try simp only [zuI_1, zuI_2, zuJ_1, zuJ_2, zuJ_3, zuP_1, zuP_2, zuP_3, zuC_1, zuC_2, reduceIte, Nat.reduceEqDiff, false_and, and_false, true_and, and_true, and_self, or_true, true_or, or_false, false_or] at tr317_1017
        have tr317_1020 := zsm_at hz317 1020 w 0 (by decide)
        try simp only [zuI_1, zuI_2, zuJ_1, zuJ_2, zuJ_3, zuP_1, zuP_2, zuP_3, zuC_1, zuC_2, reduceIte, Nat.reduceEqDiff, false_and, and_false, true_and, and_true, and_self, or_true, true_or, or_false, false_or] at tr317_1020
        have hxx := hq317.2
        refine zs_istore_n (pc := 320) C dX9_lineRead_320 (by decide) ?_
        dsimp only [zset, zclr, znone]
        exact zs_wk (J321 _ _ (by repeat (first | exact zsm_rf | assumption | refine zsm_C (by decide) ?_ | refine zsm_I (by decide) ?_ | refine zsm_J ?_ | refine zsm_c (by assumption) (by decide) ?_)) (by repeat (first | assumption | refine MI_I (by decide) ?_ | refine MI_J ?_ | refine MI_sm (by assumption) (by decide) ?_ | refine MI_sn (by assumption) (by decide) ?_)) (by omega) (fun q => by first | (exfalso; omega) | exact ⟨(hxx q).1, (hxx q).2.1, by have hxy := (hxx q).2.2; omega⟩ | exact ⟨(hxx q).1, (by repeat (first | assumption | refine RC_I (by decide) ?_ | refine RC_sm (by assumption) (by decide) ?_)), (hxx q).2⟩ | exact ⟨(by repeat (first | assumption | refine TI_I (by decide) ?_ | refine TI_sm (by assumption) (by decide) ?_)), (by repeat (first | assumption | refine RC_I (by decide) ?_ | refine RC_sm (by assumption) (by decide) ?_)), (by first | omega | (simp only [zuI_1, zuI_2, zuJ_1, zuJ_2, zuJ_3, zuP_1, zuP_2, zuP_3, zuC_1, zuC_2, reduceIte, Nat.reduceEqDiff, false_and, and_false, true_and, and_true, and_self, or_true, true_or, or_false, false_or]; omega))⟩)) (zwk_s rfl (zwk_s rfl (zwk_n zwk_0)))
      · skip
        refine zs_tabIn (pc := 27) (tgt := 310) C 5 dX9_lineRead_27 h27 (by decide) rfl (by decide) ?_
        refine zs_aload_n (pc := 310) C dX9_lineRead_310 rfl ?_
        refine zs_aload_n (pc := 311) C dX9_lineRead_311 rfl ?_
        refine zs_geti (r := 1009) (pc := 312) C dX9_lineRead_312 w_X9_207 f_10_9 rfl (r_1009 0) (fun v312 e312 l312 u312 => ?_)
        refine zs_iconst (pc := 315) C dX9_lineRead_315 (by decide) ?_
        first | refine zs_isub (pc := 316) C dX9_lineRead_316 (by omega) ?_ | refine zs_isubF (pc := 316) C dX9_lineRead_316 (fun z316 hz3161 hz3162 => ?_)
        refine zVi1 (pc := 317) C dX9_lineRead_317 v_X9_304 (c_X9_onceLine hX (by repeat (first | assumption | refine TI_I (by decide) ?_ | refine TI_sm (by assumption) (by decide) ?_)) (by omega) (by omega)) (by decide) (by decide) ⟨Nat.zero_le _, Nat.zero_le _⟩ (Nat.le_of_ble_eq_true rfl) (fun x317 G317 l317 u317 hp317 => ?_)
        obtain ⟨hz317, hq317⟩ := hp317
        have tr317_1006 := zsm_at hz317 1006 w 0 (by decide)
        try simp only [zuI_1, zuI_2, zuJ_1, zuJ_2, zuJ_3, zuP_1, zuP_2, zuP_3, zuC_1, zuC_2, reduceIte, Nat.reduceEqDiff, false_and, and_false, true_and, and_true, and_self, or_true, true_or, or_false, false_or] at tr317_1006
        have tr317_1017 := zsm_at hz317 1017 w 0 (by decide)
        try simp only [zuI_1, zuI_2, zuJ_1, zuJ_2, zuJ_3, zuP_1, zuP_2, zuP_3, zuC_1, zuC_2, reduceIte, Nat.reduceEqDiff, false_and, and_false, true_and, and_true, and_self, or_true, true_or, or_false, false_or] at tr317_1017
        have tr317_1020 := zsm_at hz317 1020 w 0 (by decide)
        try simp only [zuI_1, zuI_2, zuJ_1, zuJ_2, zuJ_3, zuP_1, zuP_2, zuP_3, zuC_1, zuC_2, reduceIte, Nat.reduceEqDiff, false_and, and_false, true_and, and_true, and_self, or_true, true_or, or_false, false_or] at tr317_1020
        have hxx := hq317.2
        refine zs_istore_n (pc := 320) C dX9_lineRead_320 (by decide) ?_
        dsimp only [zset, zclr, znone]
        exact zs_wk (J321 _ _ (by repeat (first | exact zsm_rf | assumption | refine zsm_C (by decide) ?_ | refine zsm_I (by decide) ?_ | refine zsm_J ?_ | refine zsm_c (by assumption) (by decide) ?_)) (by repeat (first | assumption | refine MI_I (by decide) ?_ | refine MI_J ?_ | refine MI_sm (by assumption) (by decide) ?_ | refine MI_sn (by assumption) (by decide) ?_)) (by omega) (fun q => by first | (exfalso; omega) | exact ⟨(hxx q).1, (hxx q).2.1, by have hxy := (hxx q).2.2; omega⟩ | exact ⟨(hxx q).1, (by repeat (first | assumption | refine RC_I (by decide) ?_ | refine RC_sm (by assumption) (by decide) ?_)), (hxx q).2⟩ | exact ⟨(by repeat (first | assumption | refine TI_I (by decide) ?_ | refine TI_sm (by assumption) (by decide) ?_)), (by repeat (first | assumption | refine RC_I (by decide) ?_ | refine RC_sm (by assumption) (by decide) ?_)), (by first | omega | (simp only [zuI_1, zuI_2, zuJ_1, zuJ_2, zuJ_3, zuP_1, zuP_2, zuP_3, zuC_1, zuC_2, reduceIte, Nat.reduceEqDiff, false_and, and_false, true_and, and_true, and_self, or_true, true_or, or_false, false_or]; omega))⟩)) (zwk_s rfl (zwk_s rfl (zwk_n zwk_0)))
      · skip
        refine zs_tabIn (pc := 27) (tgt := 310) C 6 dX9_lineRead_27 h27 (by decide) rfl (by decide) ?_
        refine zs_aload_n (pc := 310) C dX9_lineRead_310 rfl ?_
        refine zs_aload_n (pc := 311) C dX9_lineRead_311 rfl ?_
        refine zs_geti (r := 1009) (pc := 312) C dX9_lineRead_312 w_X9_207 f_10_9 rfl (r_1009 0) (fun v312 e312 l312 u312 => ?_)
        refine zs_iconst (pc := 315) C dX9_lineRead_315 (by decide) ?_
        first | refine zs_isub (pc := 316) C dX9_lineRead_316 (by omega) ?_ | refine zs_isubF (pc := 316) C dX9_lineRead_316 (fun z316 hz3161 hz3162 => ?_)
        refine zVi1 (pc := 317) C dX9_lineRead_317 v_X9_304 (c_X9_onceLine hX (by repeat (first | assumption | refine TI_I (by decide) ?_ | refine TI_sm (by assumption) (by decide) ?_)) (by omega) (by omega)) (by decide) (by decide) ⟨Nat.zero_le _, Nat.zero_le _⟩ (Nat.le_of_ble_eq_true rfl) (fun x317 G317 l317 u317 hp317 => ?_)
        obtain ⟨hz317, hq317⟩ := hp317
        have tr317_1006 := zsm_at hz317 1006 w 0 (by decide)
        try simp only [zuI_1, zuI_2, zuJ_1, zuJ_2, zuJ_3, zuP_1, zuP_2, zuP_3, zuC_1, zuC_2, reduceIte, Nat.reduceEqDiff, false_and, and_false, true_and, and_true, and_self, or_true, true_or, or_false, false_or] at tr317_1006
        have tr317_1017 := zsm_at hz317 1017 w 0 (by decide)
        try simp only [zuI_1, zuI_2, zuJ_1, zuJ_2, zuJ_3, zuP_1, zuP_2, zuP_3, zuC_1, zuC_2, reduceIte, Nat.reduceEqDiff, false_and, and_false, true_and, and_true, and_self, or_true, true_or, or_false, false_or] at tr317_1017
        have tr317_1020 := zsm_at hz317 1020 w 0 (by decide)
        try simp only [zuI_1, zuI_2, zuJ_1, zuJ_2, zuJ_3, zuP_1, zuP_2, zuP_3, zuC_1, zuC_2, reduceIte, Nat.reduceEqDiff, false_and, and_false, true_and, and_true, and_self, or_true, true_or, or_false, false_or] at tr317_1020
        have hxx := hq317.2
        refine zs_istore_n (pc := 320) C dX9_lineRead_320 (by decide) ?_
        dsimp only [zset, zclr, znone]
        exact zs_wk (J321 _ _ (by repeat (first | exact zsm_rf | assumption | refine zsm_C (by decide) ?_ | refine zsm_I (by decide) ?_ | refine zsm_J ?_ | refine zsm_c (by assumption) (by decide) ?_)) (by repeat (first | assumption | refine MI_I (by decide) ?_ | refine MI_J ?_ | refine MI_sm (by assumption) (by decide) ?_ | refine MI_sn (by assumption) (by decide) ?_)) (by omega) (fun q => by first | (exfalso; omega) | exact ⟨(hxx q).1, (hxx q).2.1, by have hxy := (hxx q).2.2; omega⟩ | exact ⟨(hxx q).1, (by repeat (first | assumption | refine RC_I (by decide) ?_ | refine RC_sm (by assumption) (by decide) ?_)), (hxx q).2⟩ | exact ⟨(by repeat (first | assumption | refine TI_I (by decide) ?_ | refine TI_sm (by assumption) (by decide) ?_)), (by repeat (first | assumption | refine RC_I (by decide) ?_ | refine RC_sm (by assumption) (by decide) ?_)), (by first | omega | (simp only [zuI_1, zuI_2, zuJ_1, zuJ_2, zuJ_3, zuP_1, zuP_2, zuP_3, zuC_1, zuC_2, reduceIte, Nat.reduceEqDiff, false_and, and_false, true_and, and_true, and_self, or_true, true_or, or_false, false_or]; omega))⟩)) (zwk_s rfl (zwk_s rfl (zwk_n zwk_0)))
      · skip
        refine zs_tabIn (pc := 27) (tgt := 168) C 7 dX9_lineRead_27 h27 (by decide) rfl (by decide) ?_
        refine zs_aload_n (pc := 168) C dX9_lineRead_168 rfl ?_
        refine zVv0 (pc := 169) C dX9_lineRead_169 v_X9_230 (c_X9_token hX (by omega)) (by decide) (by decide) ⟨Nat.zero_le _, Nat.zero_le _⟩ (Nat.le_of_ble_eq_true rfl) (fun G169 hp169 => ?_)
        obtain ⟨hz169, hq169⟩ := hp169
        have tr169_1006 := zsm_at hz169 1006 w 0 (by decide)
        try simp only [zuI_1, zuI_2, zuJ_1, zuJ_2, zuJ_3, zuP_1, zuP_2, zuP_3, zuC_1, zuC_2, reduceIte, Nat.reduceEqDiff, false_and, and_false, true_and, and_true, and_self, or_true, true_or, or_false, false_or] at tr169_1006
        have tr169_1017 := zsm_at hz169 1017 w 0 (by decide)
        try simp only [zuI_1, zuI_2, zuJ_1, zuJ_2, zuJ_3, zuP_1, zuP_2, zuP_3, zuC_1, zuC_2, reduceIte, Nat.reduceEqDiff, false_and, and_false, true_and, and_true, and_self, or_true, true_or, or_false, false_or] at tr169_1017
        have tr169_1020 := zsm_at hz169 1020 w 0 (by decide)
        try simp only [zuI_1, zuI_2, zuJ_1, zuJ_2, zuJ_3, zuP_1, zuP_2, zuP_3, zuC_1, zuC_2, reduceIte, Nat.reduceEqDiff, false_and, and_false, true_and, and_true, and_self, or_true, true_or, or_false, false_or] at tr169_1020
        have hTIb := hq169.1
        have t1b := hTIb.1
        have t2b := hTIb.2.1
        have t3b := hTIb.2.2.1
        have t6b := hTIb.2.2.2.2.1
        have J198 : ∀ (G0 : zH), (G0 = G169) → Z p l e (zrm 5) s m args below meth c Γ 3 0 0 (MQ below (zQc Γ (zpi (fun x G' => zsm [1007, 1008, 1009, 1010, 1004, 1005, 1011, 2063, 2064, 2065, 1018, 2066, 2067, 2068, 2069, 1019, 2074, 2075, 2076, 2078, 1043, 1021, 2077, 1042, 1044, 1045, 1046, 1047, 2071, 2072, 2073, 2061, 2062, 1017, 2070, 1020, 2060, 2059] G G' ∧ ((x = 0 ∨ x = 1) ∧ MI Γ w G' ∧ (x = 1 → TI w G' ∧ RC Γ w G' ∧ G.1 1010 w 0 < G'.1 1010 w 0))))) args s 0 0 (zA Γ)) 198 [some (zr 10 w), none, none] [] G0 := by
          intro G0 h198_0
          rw [h198_0]
          refine zs_aload_n (pc := 198) C dX9_lineRead_198 rfl ?_
          refine zs_iconst (pc := 199) C dX9_lineRead_199 (by decide) ?_
          refine zVi1 (pc := 200) C dX9_lineRead_200 v_X9_220 (c_X9_wrong hX ) (by decide) (by decide) ⟨Nat.zero_le _, Nat.zero_le _⟩ (Nat.le_of_ble_eq_true rfl) (fun x200 G200 l200 u200 hp200 => ?_)
          obtain ⟨hz200, hq200⟩ := hp200
          have tr200_1007 := zsm_at hz200 1007 w 0 (by decide)
          try simp only [zuI_1, zuI_2, zuJ_1, zuJ_2, zuJ_3, zuP_1, zuP_2, zuP_3, zuC_1, zuC_2, reduceIte, Nat.reduceEqDiff, false_and, and_false, true_and, and_true, and_self, or_true, true_or, or_false, false_or] at tr200_1007
          have tr200_1010 := zsm_at hz200 1010 w 0 (by decide)
          try simp only [zuI_1, zuI_2, zuJ_1, zuJ_2, zuJ_3, zuP_1, zuP_2, zuP_3, zuC_1, zuC_2, reduceIte, Nat.reduceEqDiff, false_and, and_false, true_and, and_true, and_self, or_true, true_or, or_false, false_or] at tr200_1010
          have tr200_1006 := zsm_at hz200 1006 w 0 (by decide)
          try simp only [zuI_1, zuI_2, zuJ_1, zuJ_2, zuJ_3, zuP_1, zuP_2, zuP_3, zuC_1, zuC_2, reduceIte, Nat.reduceEqDiff, false_and, and_false, true_and, and_true, and_self, or_true, true_or, or_false, false_or] at tr200_1006
          have tr200_1017 := zsm_at hz200 1017 w 0 (by decide)
          try simp only [zuI_1, zuI_2, zuJ_1, zuJ_2, zuJ_3, zuP_1, zuP_2, zuP_3, zuC_1, zuC_2, reduceIte, Nat.reduceEqDiff, false_and, and_false, true_and, and_true, and_self, or_true, true_or, or_false, false_or] at tr200_1017
          have tr200_1020 := zsm_at hz200 1020 w 0 (by decide)
          try simp only [zuI_1, zuI_2, zuJ_1, zuJ_2, zuJ_3, zuP_1, zuP_2, zuP_3, zuC_1, zuC_2, reduceIte, Nat.reduceEqDiff, false_and, and_false, true_and, and_true, and_self, or_true, true_or, or_false, false_or] at tr200_1020
          exact zs_zret (pc := 203) C hr hlk dX9_lineRead_203 (by omega) ⟨by repeat (first | exact zsm_rf | assumption | refine zsm_C (by decide) ?_ | refine zsm_I (by decide) ?_ | refine zsm_J ?_ | refine zsm_c (by assumption) (by decide) ?_), ⟨by omega, (by repeat (first | assumption | refine MI_I (by decide) ?_ | refine MI_J ?_ | refine MI_sm (by assumption) (by decide) ?_ | refine MI_sn (by assumption) (by decide) ?_)), fun q => by first | (exfalso; omega) | exact ⟨(by repeat (first | assumption | refine TI_I (by decide) ?_ | refine TI_sm (by assumption) (by decide) ?_)), (by repeat (first | assumption | refine RC_I (by decide) ?_ | refine RC_sm (by assumption) (by decide) ?_)), (by first | omega | (simp only [zuI_1, zuI_2, zuJ_1, zuJ_2, zuJ_3, zuP_1, zuP_2, zuP_3, zuC_1, zuC_2, reduceIte, Nat.reduceEqDiff, false_and, and_false, true_and, and_true, and_self, or_true, true_or, or_false, false_or]; omega))⟩⟩⟩
        refine zs_aload_n (pc := 172) C dX9_lineRead_172 rfl ?_
        refine zs_geti (r := 1008) (pc := 173) C dX9_lineRead_173 w_X9_196 f_10_8 rfl (r_1008 0) (fun v173 e173 l173 u173 => ?_)
        refine zs_iconst (pc := 176) C dX9_lineRead_176 (by decide) ?_
        refine zs_icmp_ne (tgt := 198) (pc := 177) C dX9_lineRead_177 (by decide) (fun h177 => ?_) (fun h177 => ?_)
        · skip
          exact zs_wk (J198 _ rfl) (zwk_s rfl (zwk_n (zwk_n zwk_0)))
        · skip
          refine zs_aload_n (pc := 180) C dX9_lineRead_180 rfl ?_
          refine zs_geti (r := 1009) (pc := 181) C dX9_lineRead_181 w_X9_207 f_10_9 rfl (r_1009 0) (fun v181 e181 l181 u181 => ?_)
          refine zs_bipush (pc := 184) C dX9_lineRead_184 (by decide) (by decide) ?_
          refine zs_icmp_lt (tgt := 198) (pc := 186) C dX9_lineRead_186 (by decide) (fun h186 => ?_) (fun h186 => ?_)
          · skip
            exact zs_wk (J198 _ rfl) (zwk_s rfl (zwk_n (zwk_n zwk_0)))
          · skip
            refine zs_aload_n (pc := 189) C dX9_lineRead_189 rfl ?_
            refine zs_geti (r := 1009) (pc := 190) C dX9_lineRead_190 w_X9_207 f_10_9 rfl (r_1009 0) (fun v190 e190 l190 u190 => ?_)
            refine zs_bipush (pc := 193) C dX9_lineRead_193 (by decide) (by decide) ?_
            refine zs_icmp_le (tgt := 204) (pc := 195) C dX9_lineRead_195 (by decide) (fun h195 => ?_) (fun h195 => ?_)
            · skip
              refine zs_bipush (pc := 204) C dX9_lineRead_204 (by decide) (by decide) ?_
              refine zs_aload_n (pc := 206) C dX9_lineRead_206 rfl ?_
              refine zs_geti (r := 1009) (pc := 207) C dX9_lineRead_207 w_X9_207 f_10_9 rfl (r_1009 0) (fun v207 e207 l207 u207 => ?_)
              first | refine zs_iadd (pc := 210) C dX9_lineRead_210 (by omega) ?_ | refine zs_iaddF (pc := 210) C dX9_lineRead_210 (fun z210 hz2101 hz2102 => ?_)
              refine zs_bipush (pc := 211) C dX9_lineRead_211 (by decide) (by decide) ?_
              first | refine zs_isub (pc := 213) C dX9_lineRead_213 (by omega) ?_ | refine zs_isubF (pc := 213) C dX9_lineRead_213 (fun z213 hz2131 hz2132 => ?_)
              refine zs_istore_n (pc := 214) C dX9_lineRead_214 (by decide) ?_
              dsimp only [zset, zclr, znone]
              refine zs_aload_n (pc := 215) C dX9_lineRead_215 rfl ?_
              refine zs_getf (pc := 216) C dX9_lineRead_216 w_X9_57 f_10_34 (by decide) ?_
              refine zs_iload_n (pc := 219) C dX9_lineRead_219 rfl ?_
              refine zs_zald (r := 2071) (pc := 220) C dX9_lineRead_220 a_71 (by decide) (by omega) rfl (r_2071 _) (fun v220 e220 l220 u220 => ?_)
              refine zs_if_eq (tgt := 230) (pc := 221) C dX9_lineRead_221 (by decide) (fun h221 => ?_) (fun h221 => ?_)
              · skip
                refine zs_aload_n (pc := 230) C dX9_lineRead_230 rfl ?_
                refine zVv0 (pc := 231) C dX9_lineRead_231 v_X9_230 (c_X9_token hX (by omega)) (by decide) (by decide) ⟨Nat.zero_le _, Nat.zero_le _⟩ (Nat.le_of_ble_eq_true rfl) (fun G231 hp231 => ?_)
                obtain ⟨hz231, hq231⟩ := hp231
                have tr231_1006 := zsm_at hz231 1006 w 0 (by decide)
                try simp only [zuI_1, zuI_2, zuJ_1, zuJ_2, zuJ_3, zuP_1, zuP_2, zuP_3, zuC_1, zuC_2, reduceIte, Nat.reduceEqDiff, false_and, and_false, true_and, and_true, and_self, or_true, true_or, or_false, false_or] at tr231_1006
                have tr231_1017 := zsm_at hz231 1017 w 0 (by decide)
                try simp only [zuI_1, zuI_2, zuJ_1, zuJ_2, zuJ_3, zuP_1, zuP_2, zuP_3, zuC_1, zuC_2, reduceIte, Nat.reduceEqDiff, false_and, and_false, true_and, and_true, and_self, or_true, true_or, or_false, false_or] at tr231_1017
                have tr231_1020 := zsm_at hz231 1020 w 0 (by decide)
                try simp only [zuI_1, zuI_2, zuJ_1, zuJ_2, zuJ_3, zuP_1, zuP_2, zuP_3, zuC_1, zuC_2, reduceIte, Nat.reduceEqDiff, false_and, and_false, true_and, and_true, and_self, or_true, true_or, or_false, false_or] at tr231_1020
                have hTIc := hq231.1
                refine zs_aload_n (pc := 234) C dX9_lineRead_234 rfl ?_
                refine zs_iload_n (pc := 235) C dX9_lineRead_235 rfl ?_
                refine zVi1 (pc := 236) C dX9_lineRead_236 v_X9_301 (c_X9_lawRead hX (by repeat (first | assumption | refine MI_I (by decide) ?_ | refine MI_J ?_ | refine MI_sm (by assumption) (by decide) ?_ | refine MI_sn (by assumption) (by decide) ?_)) (by repeat (first | assumption | refine TI_I (by decide) ?_ | refine TI_sm (by assumption) (by decide) ?_)) (by repeat (first | assumption | refine RC_I (by decide) ?_ | refine RC_sm (by assumption) (by decide) ?_)) (by omega)) (by decide) (by decide) ⟨Nat.zero_le _, Nat.zero_le _⟩ (Nat.le_of_ble_eq_true rfl) (fun x236 G236 l236 u236 hp236 => ?_)
                obtain ⟨hz236, hq236⟩ := hp236
                have tr236_1006 := zsm_at hz236 1006 w 0 (by decide)
                try simp only [zuI_1, zuI_2, zuJ_1, zuJ_2, zuJ_3, zuP_1, zuP_2, zuP_3, zuC_1, zuC_2, reduceIte, Nat.reduceEqDiff, false_and, and_false, true_and, and_true, and_self, or_true, true_or, or_false, false_or] at tr236_1006
                have tr236_1017 := zsm_at hz236 1017 w 0 (by decide)
                try simp only [zuI_1, zuI_2, zuJ_1, zuJ_2, zuJ_3, zuP_1, zuP_2, zuP_3, zuC_1, zuC_2, reduceIte, Nat.reduceEqDiff, false_and, and_false, true_and, and_true, and_self, or_true, true_or, or_false, false_or] at tr236_1017
                have tr236_1020 := zsm_at hz236 1020 w 0 (by decide)
                try simp only [zuI_1, zuI_2, zuJ_1, zuJ_2, zuJ_3, zuP_1, zuP_2, zuP_3, zuC_1, zuC_2, reduceIte, Nat.reduceEqDiff, false_and, and_false, true_and, and_true, and_self, or_true, true_or, or_false, false_or] at tr236_1020
                have hMI := hq236.2.1
                have hxx := hq236.2.2
                refine zs_istore_n (pc := 239) C dX9_lineRead_239 (by decide) ?_
                dsimp only [zset, zclr, znone]
                refine zs_goto (tgt := 321) (pc := 240) C dX9_lineRead_240 (by decide) ?_
                exact zs_wk (J321 _ _ (by repeat (first | exact zsm_rf | assumption | refine zsm_C (by decide) ?_ | refine zsm_I (by decide) ?_ | refine zsm_J ?_ | refine zsm_c (by assumption) (by decide) ?_)) (by repeat (first | assumption | refine MI_I (by decide) ?_ | refine MI_J ?_ | refine MI_sm (by assumption) (by decide) ?_ | refine MI_sn (by assumption) (by decide) ?_)) (by omega) (fun q => by first | (exfalso; omega) | exact ⟨(hxx q).1, (hxx q).2.1, by have hxy := (hxx q).2.2; omega⟩ | exact ⟨(hxx q).1, (by repeat (first | assumption | refine RC_I (by decide) ?_ | refine RC_sm (by assumption) (by decide) ?_)), (hxx q).2⟩ | exact ⟨(by repeat (first | assumption | refine TI_I (by decide) ?_ | refine TI_sm (by assumption) (by decide) ?_)), (by repeat (first | assumption | refine RC_I (by decide) ?_ | refine RC_sm (by assumption) (by decide) ?_)), (by first | omega | (simp only [zuI_1, zuI_2, zuJ_1, zuJ_2, zuJ_3, zuP_1, zuP_2, zuP_3, zuC_1, zuC_2, reduceIte, Nat.reduceEqDiff, false_and, and_false, true_and, and_true, and_self, or_true, true_or, or_false, false_or]; omega))⟩)) (zwk_s rfl (zwk_s rfl (zwk_n zwk_0)))
              · skip
                refine zs_aload_n (pc := 224) C dX9_lineRead_224 rfl ?_
                refine zs_iconst (pc := 225) C dX9_lineRead_225 (by decide) ?_
                refine zVi1 (pc := 226) C dX9_lineRead_226 v_X9_220 (c_X9_wrong hX ) (by decide) (by decide) ⟨Nat.zero_le _, Nat.zero_le _⟩ (Nat.le_of_ble_eq_true rfl) (fun x226 G226 l226 u226 hp226 => ?_)
                obtain ⟨hz226, hq226⟩ := hp226
                have tr226_1007 := zsm_at hz226 1007 w 0 (by decide)
                try simp only [zuI_1, zuI_2, zuJ_1, zuJ_2, zuJ_3, zuP_1, zuP_2, zuP_3, zuC_1, zuC_2, reduceIte, Nat.reduceEqDiff, false_and, and_false, true_and, and_true, and_self, or_true, true_or, or_false, false_or] at tr226_1007
                have tr226_1010 := zsm_at hz226 1010 w 0 (by decide)
                try simp only [zuI_1, zuI_2, zuJ_1, zuJ_2, zuJ_3, zuP_1, zuP_2, zuP_3, zuC_1, zuC_2, reduceIte, Nat.reduceEqDiff, false_and, and_false, true_and, and_true, and_self, or_true, true_or, or_false, false_or] at tr226_1010
                have tr226_1006 := zsm_at hz226 1006 w 0 (by decide)
                try simp only [zuI_1, zuI_2, zuJ_1, zuJ_2, zuJ_3, zuP_1, zuP_2, zuP_3, zuC_1, zuC_2, reduceIte, Nat.reduceEqDiff, false_and, and_false, true_and, and_true, and_self, or_true, true_or, or_false, false_or] at tr226_1006
                have tr226_1017 := zsm_at hz226 1017 w 0 (by decide)
                try simp only [zuI_1, zuI_2, zuJ_1, zuJ_2, zuJ_3, zuP_1, zuP_2, zuP_3, zuC_1, zuC_2, reduceIte, Nat.reduceEqDiff, false_and, and_false, true_and, and_true, and_self, or_true, true_or, or_false, false_or] at tr226_1017
                have tr226_1020 := zsm_at hz226 1020 w 0 (by decide)
                try simp only [zuI_1, zuI_2, zuJ_1, zuJ_2, zuJ_3, zuP_1, zuP_2, zuP_3, zuC_1, zuC_2, reduceIte, Nat.reduceEqDiff, false_and, and_false, true_and, and_true, and_self, or_true, true_or, or_false, false_or] at tr226_1020
                exact zs_zret (pc := 229) C hr hlk dX9_lineRead_229 (by omega) ⟨by repeat (first | exact zsm_rf | assumption | refine zsm_C (by decide) ?_ | refine zsm_I (by decide) ?_ | refine zsm_J ?_ | refine zsm_c (by assumption) (by decide) ?_), ⟨by omega, (by repeat (first | assumption | refine MI_I (by decide) ?_ | refine MI_J ?_ | refine MI_sm (by assumption) (by decide) ?_ | refine MI_sn (by assumption) (by decide) ?_)), fun q => by first | (exfalso; omega) | exact ⟨(by repeat (first | assumption | refine TI_I (by decide) ?_ | refine TI_sm (by assumption) (by decide) ?_)), (by repeat (first | assumption | refine RC_I (by decide) ?_ | refine RC_sm (by assumption) (by decide) ?_)), (by first | omega | (simp only [zuI_1, zuI_2, zuJ_1, zuJ_2, zuJ_3, zuP_1, zuP_2, zuP_3, zuC_1, zuC_2, reduceIte, Nat.reduceEqDiff, false_and, and_false, true_and, and_true, and_self, or_true, true_or, or_false, false_or]; omega))⟩⟩⟩
            · skip
              exact zs_wk (J198 _ rfl) (zwk_s rfl (zwk_n (zwk_n zwk_0)))
      · skip
        refine zs_tabIn (pc := 27) (tgt := 243) C 8 dX9_lineRead_27 h27 (by decide) rfl (by decide) ?_
        refine zs_aload_n (pc := 243) C dX9_lineRead_243 rfl ?_
        refine zs_geti (r := 1020) (pc := 244) C dX9_lineRead_244 w_X9_249 f_10_20 rfl (r_1020 0) (fun v244 e244 l244 u244 => ?_)
        refine zs_iconst (pc := 247) C dX9_lineRead_247 (by decide) ?_
        refine zs_icmp_ne (tgt := 257) (pc := 248) C dX9_lineRead_248 (by decide) (fun h248 => ?_) (fun h248 => ?_)
        · skip
          refine zs_aload_n (pc := 257) C dX9_lineRead_257 rfl ?_
          refine zVv0 (pc := 258) C dX9_lineRead_258 v_X9_230 (c_X9_token hX (by omega)) (by decide) (by decide) ⟨Nat.zero_le _, Nat.zero_le _⟩ (Nat.le_of_ble_eq_true rfl) (fun G258 hp258 => ?_)
          obtain ⟨hz258, hq258⟩ := hp258
          have tr258_1006 := zsm_at hz258 1006 w 0 (by decide)
          try simp only [zuI_1, zuI_2, zuJ_1, zuJ_2, zuJ_3, zuP_1, zuP_2, zuP_3, zuC_1, zuC_2, reduceIte, Nat.reduceEqDiff, false_and, and_false, true_and, and_true, and_self, or_true, true_or, or_false, false_or] at tr258_1006
          have tr258_1017 := zsm_at hz258 1017 w 0 (by decide)
          try simp only [zuI_1, zuI_2, zuJ_1, zuJ_2, zuJ_3, zuP_1, zuP_2, zuP_3, zuC_1, zuC_2, reduceIte, Nat.reduceEqDiff, false_and, and_false, true_and, and_true, and_self, or_true, true_or, or_false, false_or] at tr258_1017
          have tr258_1020 := zsm_at hz258 1020 w 0 (by decide)
          try simp only [zuI_1, zuI_2, zuJ_1, zuJ_2, zuJ_3, zuP_1, zuP_2, zuP_3, zuC_1, zuC_2, reduceIte, Nat.reduceEqDiff, false_and, and_false, true_and, and_true, and_self, or_true, true_or, or_false, false_or] at tr258_1020
          have hTI := hq258.1
          refine zs_aload_n (pc := 261) C dX9_lineRead_261 rfl ?_
          refine zs_aload_n (pc := 262) C dX9_lineRead_262 rfl ?_
          refine zs_getf (pc := 263) C dX9_lineRead_263 w_X9_54 f_10_33 (by decide) ?_
          refine zs_iconst (pc := 266) C dX9_lineRead_266 (by decide) ?_
          refine zs_aload_n (pc := 267) C dX9_lineRead_267 rfl ?_
          refine zs_geti (r := 1020) (pc := 268) C dX9_lineRead_268 w_X9_249 f_10_20 rfl (r_1020 0) (fun v268 e268 l268 u268 => ?_)
          refine zVi3 (pc := 271) C dX9_lineRead_271 v_X9_284 (c_X9_newName70 hX (by repeat (first | assumption | refine TI_I (by decide) ?_ | refine TI_sm (by assumption) (by decide) ?_)) (by omega)) (by decide) (by decide) ⟨Nat.zero_le _, Nat.zero_le _⟩ (Nat.le_of_ble_eq_true rfl) (fun x271 G271 l271 u271 hp271 => ?_)
          obtain ⟨hz271, hq271⟩ := hp271
          have tr271_1006 := zsm_at hz271 1006 w 0 (by decide)
          try simp only [zuI_1, zuI_2, zuJ_1, zuJ_2, zuJ_3, zuP_1, zuP_2, zuP_3, zuC_1, zuC_2, reduceIte, Nat.reduceEqDiff, false_and, and_false, true_and, and_true, and_self, or_true, true_or, or_false, false_or] at tr271_1006
          have tr271_1017 := zsm_at hz271 1017 w 0 (by decide)
          try simp only [zuI_1, zuI_2, zuJ_1, zuJ_2, zuJ_3, zuP_1, zuP_2, zuP_3, zuC_1, zuC_2, reduceIte, Nat.reduceEqDiff, false_and, and_false, true_and, and_true, and_self, or_true, true_or, or_false, false_or] at tr271_1017
          have tr271_1020 := zsm_at hz271 1020 w 0 (by decide)
          try simp only [zuI_1, zuI_2, zuJ_1, zuJ_2, zuJ_3, zuP_1, zuP_2, zuP_3, zuC_1, zuC_2, reduceIte, Nat.reduceEqDiff, false_and, and_false, true_and, and_true, and_self, or_true, true_or, or_false, false_or] at tr271_1020
          refine zs_if_ne (tgt := 279) (pc := 274) C dX9_lineRead_274 (by decide) (fun h274 => ?_) (fun h274 => ?_)
          · skip
            have hy2 := (hq271.2 (by omega)).2
            refine zs_aload_n (pc := 279) C dX9_lineRead_279 rfl ?_
            refine zs_bipush (pc := 280) C dX9_lineRead_280 (by decide) (by decide) ?_
            refine zs_aload_n (pc := 282) C dX9_lineRead_282 rfl ?_
            refine zs_geti (r := 1020) (pc := 283) C dX9_lineRead_283 w_X9_249 f_10_20 rfl (r_1020 0) (fun v283 e283 l283 u283 => ?_)
            first | refine zs_iadd (pc := 286) C dX9_lineRead_286 (by omega) ?_ | refine zs_iaddF (pc := 286) C dX9_lineRead_286 (fun z286 hz2861 hz2862 => ?_)
            refine zVi1 (pc := 287) C dX9_lineRead_287 v_X9_301 (c_X9_lawRead hX (by repeat (first | assumption | refine MI_I (by decide) ?_ | refine MI_J ?_ | refine MI_sm (by assumption) (by decide) ?_ | refine MI_sn (by assumption) (by decide) ?_)) (hq271.2 (by omega)).1 (by repeat (first | assumption | refine RC_I (by decide) ?_ | refine RC_sm (by assumption) (by decide) ?_)) (by omega)) (by decide) (by decide) ⟨Nat.zero_le _, Nat.zero_le _⟩ (Nat.le_of_ble_eq_true rfl) (fun x287 G287 l287 u287 hp287 => ?_)
            obtain ⟨hz287, hq287⟩ := hp287
            have tr287_1006 := zsm_at hz287 1006 w 0 (by decide)
            try simp only [zuI_1, zuI_2, zuJ_1, zuJ_2, zuJ_3, zuP_1, zuP_2, zuP_3, zuC_1, zuC_2, reduceIte, Nat.reduceEqDiff, false_and, and_false, true_and, and_true, and_self, or_true, true_or, or_false, false_or] at tr287_1006
            have tr287_1017 := zsm_at hz287 1017 w 0 (by decide)
            try simp only [zuI_1, zuI_2, zuJ_1, zuJ_2, zuJ_3, zuP_1, zuP_2, zuP_3, zuC_1, zuC_2, reduceIte, Nat.reduceEqDiff, false_and, and_false, true_and, and_true, and_self, or_true, true_or, or_false, false_or] at tr287_1017
            have tr287_1020 := zsm_at hz287 1020 w 0 (by decide)
            try simp only [zuI_1, zuI_2, zuJ_1, zuJ_2, zuJ_3, zuP_1, zuP_2, zuP_3, zuC_1, zuC_2, reduceIte, Nat.reduceEqDiff, false_and, and_false, true_and, and_true, and_self, or_true, true_or, or_false, false_or] at tr287_1020
            have hMI := hq287.2.1
            refine zs_if_ne (tgt := 295) (pc := 290) C dX9_lineRead_290 (by decide) (fun h290 => ?_) (fun h290 => ?_)
            · skip
              have hyl := hq287.2.2 (by omega)
              have hTIl := hyl.1
              have hRCl := hyl.2.1
              have hatl := hyl.2.2
              refine zs_aload_n (pc := 295) C dX9_lineRead_295 rfl ?_
              refine zs_dupa (pc := 296) C dX9_lineRead_296 ?_
              refine zs_geti (r := 1020) (pc := 297) C dX9_lineRead_297 w_X9_249 f_10_20 rfl (r_1020 0) (fun v297 e297 l297 u297 => ?_)
              refine zs_iconst (pc := 300) C dX9_lineRead_300 (by decide) ?_
              first | refine zs_iadd (pc := 301) C dX9_lineRead_301 (by omega) ?_ | refine zs_iaddF (pc := 301) C dX9_lineRead_301 (fun z301 hz3011 hz3012 => ?_)
              refine zs_puti (r := 1020) (pc := 302) C dX9_lineRead_302 w_X9_249 f_10_20 rfl (r_1020 0) (by omega) ?_
              refine zs_iconst (pc := 305) C dX9_lineRead_305 (by decide) ?_
              refine zs_istore_n (pc := 306) C dX9_lineRead_306 (by decide) ?_
              dsimp only [zset, zclr, znone]
              refine zs_goto (tgt := 321) (pc := 307) C dX9_lineRead_307 (by decide) ?_
              exact zs_wk (J321 _ _ (by repeat (first | exact zsm_rf | assumption | refine zsm_C (by decide) ?_ | refine zsm_I (by decide) ?_ | refine zsm_J ?_ | refine zsm_c (by assumption) (by decide) ?_)) (by repeat (first | assumption | refine MI_I (by decide) ?_ | refine MI_J ?_ | refine MI_sm (by assumption) (by decide) ?_ | refine MI_sn (by assumption) (by decide) ?_)) (by omega) (fun q => by first | (exfalso; omega) | exact ⟨(hxx q).1, (hxx q).2.1, by have hxy := (hxx q).2.2; omega⟩ | exact ⟨(hxx q).1, (by repeat (first | assumption | refine RC_I (by decide) ?_ | refine RC_sm (by assumption) (by decide) ?_)), (hxx q).2⟩ | exact ⟨(by repeat (first | assumption | refine TI_I (by decide) ?_ | refine TI_sm (by assumption) (by decide) ?_)), (by repeat (first | assumption | refine RC_I (by decide) ?_ | refine RC_sm (by assumption) (by decide) ?_)), (by first | omega | (simp only [zuI_1, zuI_2, zuJ_1, zuJ_2, zuJ_3, zuP_1, zuP_2, zuP_3, zuC_1, zuC_2, reduceIte, Nat.reduceEqDiff, false_and, and_false, true_and, and_true, and_self, or_true, true_or, or_false, false_or]; omega))⟩)) (zwk_s rfl (zwk_s rfl (zwk_n zwk_0)))
            · skip
              refine zs_iconst (pc := 293) C dX9_lineRead_293 (by decide) ?_
              exact zs_zret (pc := 294) C hr hlk dX9_lineRead_294 (by omega) ⟨by repeat (first | exact zsm_rf | assumption | refine zsm_C (by decide) ?_ | refine zsm_I (by decide) ?_ | refine zsm_J ?_ | refine zsm_c (by assumption) (by decide) ?_), ⟨by omega, (by repeat (first | assumption | refine MI_I (by decide) ?_ | refine MI_J ?_ | refine MI_sm (by assumption) (by decide) ?_ | refine MI_sn (by assumption) (by decide) ?_)), fun q => by first | (exfalso; omega) | exact ⟨(by repeat (first | assumption | refine TI_I (by decide) ?_ | refine TI_sm (by assumption) (by decide) ?_)), (by repeat (first | assumption | refine RC_I (by decide) ?_ | refine RC_sm (by assumption) (by decide) ?_)), (by first | omega | (simp only [zuI_1, zuI_2, zuJ_1, zuJ_2, zuJ_3, zuP_1, zuP_2, zuP_3, zuC_1, zuC_2, reduceIte, Nat.reduceEqDiff, false_and, and_false, true_and, and_true, and_self, or_true, true_or, or_false, false_or]; omega))⟩⟩⟩
          · skip
            refine zs_iconst (pc := 277) C dX9_lineRead_277 (by decide) ?_
            exact zs_zret (pc := 278) C hr hlk dX9_lineRead_278 (by omega) ⟨by repeat (first | exact zsm_rf | assumption | refine zsm_C (by decide) ?_ | refine zsm_I (by decide) ?_ | refine zsm_J ?_ | refine zsm_c (by assumption) (by decide) ?_), ⟨by omega, (by repeat (first | assumption | refine MI_I (by decide) ?_ | refine MI_J ?_ | refine MI_sm (by assumption) (by decide) ?_ | refine MI_sn (by assumption) (by decide) ?_)), fun q => by first | (exfalso; omega) | exact ⟨(by repeat (first | assumption | refine TI_I (by decide) ?_ | refine TI_sm (by assumption) (by decide) ?_)), (by repeat (first | assumption | refine RC_I (by decide) ?_ | refine RC_sm (by assumption) (by decide) ?_)), (by first | omega | (simp only [zuI_1, zuI_2, zuJ_1, zuJ_2, zuJ_3, zuP_1, zuP_2, zuP_3, zuC_1, zuC_2, reduceIte, Nat.reduceEqDiff, false_and, and_false, true_and, and_true, and_self, or_true, true_or, or_false, false_or]; omega))⟩⟩⟩
        · skip
          refine zs_aload_n (pc := 251) C dX9_lineRead_251 rfl ?_
          refine zs_iconst (pc := 252) C dX9_lineRead_252 (by decide) ?_
          refine zVi1 (pc := 253) C dX9_lineRead_253 v_X9_220 (c_X9_wrong hX ) (by decide) (by decide) ⟨Nat.zero_le _, Nat.zero_le _⟩ (Nat.le_of_ble_eq_true rfl) (fun x253 G253 l253 u253 hp253 => ?_)
          obtain ⟨hz253, hq253⟩ := hp253
          have tr253_1007 := zsm_at hz253 1007 w 0 (by decide)
          try simp only [zuI_1, zuI_2, zuJ_1, zuJ_2, zuJ_3, zuP_1, zuP_2, zuP_3, zuC_1, zuC_2, reduceIte, Nat.reduceEqDiff, false_and, and_false, true_and, and_true, and_self, or_true, true_or, or_false, false_or] at tr253_1007
          have tr253_1010 := zsm_at hz253 1010 w 0 (by decide)
          try simp only [zuI_1, zuI_2, zuJ_1, zuJ_2, zuJ_3, zuP_1, zuP_2, zuP_3, zuC_1, zuC_2, reduceIte, Nat.reduceEqDiff, false_and, and_false, true_and, and_true, and_self, or_true, true_or, or_false, false_or] at tr253_1010
          have tr253_1006 := zsm_at hz253 1006 w 0 (by decide)
          try simp only [zuI_1, zuI_2, zuJ_1, zuJ_2, zuJ_3, zuP_1, zuP_2, zuP_3, zuC_1, zuC_2, reduceIte, Nat.reduceEqDiff, false_and, and_false, true_and, and_true, and_self, or_true, true_or, or_false, false_or] at tr253_1006
          have tr253_1017 := zsm_at hz253 1017 w 0 (by decide)
          try simp only [zuI_1, zuI_2, zuJ_1, zuJ_2, zuJ_3, zuP_1, zuP_2, zuP_3, zuC_1, zuC_2, reduceIte, Nat.reduceEqDiff, false_and, and_false, true_and, and_true, and_self, or_true, true_or, or_false, false_or] at tr253_1017
          have tr253_1020 := zsm_at hz253 1020 w 0 (by decide)
          try simp only [zuI_1, zuI_2, zuJ_1, zuJ_2, zuJ_3, zuP_1, zuP_2, zuP_3, zuC_1, zuC_2, reduceIte, Nat.reduceEqDiff, false_and, and_false, true_and, and_true, and_self, or_true, true_or, or_false, false_or] at tr253_1020
          exact zs_zret (pc := 256) C hr hlk dX9_lineRead_256 (by omega) ⟨by repeat (first | exact zsm_rf | assumption | refine zsm_C (by decide) ?_ | refine zsm_I (by decide) ?_ | refine zsm_J ?_ | refine zsm_c (by assumption) (by decide) ?_), ⟨by omega, (by repeat (first | assumption | refine MI_I (by decide) ?_ | refine MI_J ?_ | refine MI_sm (by assumption) (by decide) ?_ | refine MI_sn (by assumption) (by decide) ?_)), fun q => by first | (exfalso; omega) | exact ⟨(by repeat (first | assumption | refine TI_I (by decide) ?_ | refine TI_sm (by assumption) (by decide) ?_)), (by repeat (first | assumption | refine RC_I (by decide) ?_ | refine RC_sm (by assumption) (by decide) ?_)), (by first | omega | (simp only [zuI_1, zuI_2, zuJ_1, zuJ_2, zuJ_3, zuP_1, zuP_2, zuP_3, zuC_1, zuC_2, reduceIte, Nat.reduceEqDiff, false_and, and_false, true_and, and_true, and_self, or_true, true_or, or_false, false_or]; omega))⟩⟩⟩
      · skip
        refine zs_tabOut (tgt := 310) (pc := 27) C dX9_lineRead_27 h27 (by decide) ?_
        refine zs_aload_n (pc := 310) C dX9_lineRead_310 rfl ?_
        refine zs_aload_n (pc := 311) C dX9_lineRead_311 rfl ?_
        refine zs_geti (r := 1009) (pc := 312) C dX9_lineRead_312 w_X9_207 f_10_9 rfl (r_1009 0) (fun v312 e312 l312 u312 => ?_)
        refine zs_iconst (pc := 315) C dX9_lineRead_315 (by decide) ?_
        first | refine zs_isub (pc := 316) C dX9_lineRead_316 (by omega) ?_ | refine zs_isubF (pc := 316) C dX9_lineRead_316 (fun z316 hz3161 hz3162 => ?_)
        refine zVi1 (pc := 317) C dX9_lineRead_317 v_X9_304 (c_X9_onceLine hX (by repeat (first | assumption | refine TI_I (by decide) ?_ | refine TI_sm (by assumption) (by decide) ?_)) (by omega) (by omega)) (by decide) (by decide) ⟨Nat.zero_le _, Nat.zero_le _⟩ (Nat.le_of_ble_eq_true rfl) (fun x317 G317 l317 u317 hp317 => ?_)
        obtain ⟨hz317, hq317⟩ := hp317
        have tr317_1006 := zsm_at hz317 1006 w 0 (by decide)
        try simp only [zuI_1, zuI_2, zuJ_1, zuJ_2, zuJ_3, zuP_1, zuP_2, zuP_3, zuC_1, zuC_2, reduceIte, Nat.reduceEqDiff, false_and, and_false, true_and, and_true, and_self, or_true, true_or, or_false, false_or] at tr317_1006
        have tr317_1017 := zsm_at hz317 1017 w 0 (by decide)
        try simp only [zuI_1, zuI_2, zuJ_1, zuJ_2, zuJ_3, zuP_1, zuP_2, zuP_3, zuC_1, zuC_2, reduceIte, Nat.reduceEqDiff, false_and, and_false, true_and, and_true, and_self, or_true, true_or, or_false, false_or] at tr317_1017
        have tr317_1020 := zsm_at hz317 1020 w 0 (by decide)
        try simp only [zuI_1, zuI_2, zuJ_1, zuJ_2, zuJ_3, zuP_1, zuP_2, zuP_3, zuC_1, zuC_2, reduceIte, Nat.reduceEqDiff, false_and, and_false, true_and, and_true, and_self, or_true, true_or, or_false, false_or] at tr317_1020
        have hxx := hq317.2
        refine zs_istore_n (pc := 320) C dX9_lineRead_320 (by decide) ?_
        dsimp only [zset, zclr, znone]
        exact zs_wk (J321 _ _ (by repeat (first | exact zsm_rf | assumption | refine zsm_C (by decide) ?_ | refine zsm_I (by decide) ?_ | refine zsm_J ?_ | refine zsm_c (by assumption) (by decide) ?_)) (by repeat (first | assumption | refine MI_I (by decide) ?_ | refine MI_J ?_ | refine MI_sm (by assumption) (by decide) ?_ | refine MI_sn (by assumption) (by decide) ?_)) (by omega) (fun q => by first | (exfalso; omega) | exact ⟨(hxx q).1, (hxx q).2.1, by have hxy := (hxx q).2.2; omega⟩ | exact ⟨(hxx q).1, (by repeat (first | assumption | refine RC_I (by decide) ?_ | refine RC_sm (by assumption) (by decide) ?_)), (hxx q).2⟩ | exact ⟨(by repeat (first | assumption | refine TI_I (by decide) ?_ | refine TI_sm (by assumption) (by decide) ?_)), (by repeat (first | assumption | refine RC_I (by decide) ?_ | refine RC_sm (by assumption) (by decide) ?_)), (by first | omega | (simp only [zuI_1, zuI_2, zuJ_1, zuJ_2, zuJ_3, zuP_1, zuP_2, zuP_3, zuC_1, zuC_2, reduceIte, Nat.reduceEqDiff, false_and, and_false, true_and, and_true, and_self, or_true, true_or, or_false, false_or]; omega))⟩)) (zwk_s rfl (zwk_s rfl (zwk_n zwk_0)))
    · skip
      refine zs_aload_n (pc := 17) C dX9_lineRead_17 rfl ?_
      refine zs_iconst (pc := 18) C dX9_lineRead_18 (by decide) ?_
      refine zVi1 (pc := 19) C dX9_lineRead_19 v_X9_220 (c_X9_wrong hX ) (by decide) (by decide) ⟨Nat.zero_le _, Nat.zero_le _⟩ (Nat.le_of_ble_eq_true rfl) (fun x19 G19 l19 u19 hp19 => ?_)
      obtain ⟨hz19, hq19⟩ := hp19
      have tr19_1007 := zsm_at hz19 1007 w 0 (by decide)
      try simp only [zuI_1, zuI_2, zuJ_1, zuJ_2, zuJ_3, zuP_1, zuP_2, zuP_3, zuC_1, zuC_2, reduceIte, Nat.reduceEqDiff, false_and, and_false, true_and, and_true, and_self, or_true, true_or, or_false, false_or] at tr19_1007
      have tr19_1010 := zsm_at hz19 1010 w 0 (by decide)
      try simp only [zuI_1, zuI_2, zuJ_1, zuJ_2, zuJ_3, zuP_1, zuP_2, zuP_3, zuC_1, zuC_2, reduceIte, Nat.reduceEqDiff, false_and, and_false, true_and, and_true, and_self, or_true, true_or, or_false, false_or] at tr19_1010
      have tr19_1006 := zsm_at hz19 1006 w 0 (by decide)
      try simp only [zuI_1, zuI_2, zuJ_1, zuJ_2, zuJ_3, zuP_1, zuP_2, zuP_3, zuC_1, zuC_2, reduceIte, Nat.reduceEqDiff, false_and, and_false, true_and, and_true, and_self, or_true, true_or, or_false, false_or] at tr19_1006
      have tr19_1017 := zsm_at hz19 1017 w 0 (by decide)
      try simp only [zuI_1, zuI_2, zuJ_1, zuJ_2, zuJ_3, zuP_1, zuP_2, zuP_3, zuC_1, zuC_2, reduceIte, Nat.reduceEqDiff, false_and, and_false, true_and, and_true, and_self, or_true, true_or, or_false, false_or] at tr19_1017
      have tr19_1020 := zsm_at hz19 1020 w 0 (by decide)
      try simp only [zuI_1, zuI_2, zuJ_1, zuJ_2, zuJ_3, zuP_1, zuP_2, zuP_3, zuC_1, zuC_2, reduceIte, Nat.reduceEqDiff, false_and, and_false, true_and, and_true, and_self, or_true, true_or, or_false, false_or] at tr19_1020
      exact zs_zret (pc := 22) C hr hlk dX9_lineRead_22 (by omega) ⟨by repeat (first | exact zsm_rf | assumption | refine zsm_C (by decide) ?_ | refine zsm_I (by decide) ?_ | refine zsm_J ?_ | refine zsm_c (by assumption) (by decide) ?_), ⟨by omega, (by repeat (first | assumption | refine MI_I (by decide) ?_ | refine MI_J ?_ | refine MI_sm (by assumption) (by decide) ?_ | refine MI_sn (by assumption) (by decide) ?_)), fun q => by first | (exfalso; omega) | exact ⟨(by repeat (first | assumption | refine TI_I (by decide) ?_ | refine TI_sm (by assumption) (by decide) ?_)), (by repeat (first | assumption | refine RC_I (by decide) ?_ | refine RC_sm (by assumption) (by decide) ?_)), (by first | omega | (simp only [zuI_1, zuI_2, zuJ_1, zuJ_2, zuJ_3, zuP_1, zuP_2, zuP_3, zuC_1, zuC_2, reduceIte, Nat.reduceEqDiff, false_and, and_false, true_and, and_true, and_self, or_true, true_or, or_false, false_or]; omega))⟩⟩⟩
