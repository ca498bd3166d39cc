set_option maxHeartbeats 4000000 in
set_option maxRecDepth 100000 in
theorem c_X9_dropHeldY {l : Launch} {Γ : zΓ} {G : zH} {w : Nat}  (hX : zXs Γ) (hn : 1 ≤ G.1 1043 w 0) : zMet l Γ yX9_dropHeld cX9_dropHeld 1 (some .int) 0 [zr 10 w] G (zpi (fun x G' => zsm [1043] G G' ∧ LJr G G' ∧ (x = G.1 2078 (Γ.2.1 w 41) (G.1 1043 w 0 - 1).toNat ∧ 0 ≤ x ∧ x ≤ 63 ∧ G'.1 1043 w 0 = G.1 1043 w 0 - 1))) := by
  refine zMet_of RX9 hX (by decide) rfl (Nat.le_of_ble_eq_true rfl) ?_
  intro p e s m args below meth c C hr hlk
  show Z p l e (zrm 0) s m args below meth c Γ 1 0 0 (MQ below (zQc Γ (zpi (fun x G' => zsm [1043] G G' ∧ LJr G G' ∧ (x = G.1 2078 (Γ.2.1 w 41) (G.1 1043 w 0 - 1).toNat ∧ 0 ≤ x ∧ x ≤ 63 ∧ G'.1 1043 w 0 = G.1 1043 w 0 - 1)))) args s 0 0 (zA Γ)) 0 [some (zr 10 w)] [] G
  refine zs_aload_n (pc := 0) C dX9_dropHeld_0 rfl ?_
  refine zs_dupa (pc := 1) C dX9_dropHeld_1 ?_
  refine zs_geti (r := 1043) (pc := 2) C dX9_dropHeld_2 w_X9_310 f_10_43 rfl (r_1043 0) (fun v2 e2 l2 u2 => ?_)
  refine zs_iconst (pc := 5) C dX9_dropHeld_5 (by decide) ?_
  first | refine zs_isub (pc := 6) C dX9_dropHeld_6 (by omega) ?_ | refine zs_isubF (pc := 6) C dX9_dropHeld_6 (fun z6 hz61 hz62 => ?_)
  refine zs_puti (r := 1043) (pc := 7) C dX9_dropHeld_7 w_X9_310 f_10_43 rfl (r_1043 0) (by omega) ?_
  refine zs_aload_n (pc := 10) C dX9_dropHeld_10 rfl ?_
  refine zs_getf (pc := 11) C dX9_dropHeld_11 w_X9_78 f_10_41 (by decide) ?_
  refine zs_aload_n (pc := 14) C dX9_dropHeld_14 rfl ?_
  refine zs_geti (r := 1043) (pc := 15) C dX9_dropHeld_15 w_X9_310 f_10_43 rfl (r_1043 0) (fun v15 e15 l15 u15 => ?_)
  try simp only [zuI_1, zuI_2, zuJ_1, zuJ_2, zuJ_3, zuP_1, zuP_2, zuP_3, zuC_1, zuC_2, reduceIte, Nat.reduceEqDiff, false_and, and_false, true_and, and_true, and_self, or_true, true_or, or_false, false_or] at e15
  refine zs_iald (r := 2078) (pc := 18) C dX9_dropHeld_18 a_78 (by decide) (by omega) rfl (r_2078 _) (fun v18 e18 l18 u18 => ?_)
  try simp only [zuI_1, zuI_2, zuJ_1, zuJ_2, zuJ_3, zuP_1, zuP_2, zuP_3, zuC_1, zuC_2, reduceIte, Nat.reduceEqDiff, false_and, and_false, true_and, and_true, and_self, or_true, true_or, or_false, false_or] at e18
  rw [show v15 = G.1 1043 w 0 - 1 by omega] at e18
  exact zs_iret (pc := 19) C hr hlk dX9_dropHeld_19 ⟨by repeat (first | exact zsm_rf | assumption | refine zsm_C (by decide) ?_ | refine zsm_I (by decide) ?_ | refine zsm_J ?_ | refine zsm_c (by assumption) (by decide) ?_), (by with_reducible repeat (first | exact LJr_rf | assumption | refine LJr_I (h := 0) (by decide) (Nat.zero_le _) ?_ | refine LJr_I (h := 3) (by decide) (by omega) ?_ | refine LJr_I (h := 4) (by decide) (by omega) ?_ | refine LJr_I (h := 5) (by decide) (by omega) ?_ | refine LJr_I (h := 7) (by decide) (by omega) ?_ | refine LJr_I (h := 20) (by decide) (by omega) ?_ | refine LJr_I (h := 64) (by decide) (by omega) ?_ | refine LJr_c (by assumption) ?_)), by first | omega | (simp only [zuI_1, zuI_2, zuJ_1, zuJ_2, zuJ_3, zuP_1, zuP_2, zuP_3, zuC_1, zuC_2, reduceIte, Nat.reduceEqDiff, false_and, and_false, true_and, and_true, and_self, or_true, true_or, or_false, false_or]; omega)⟩

set_option maxHeartbeats 4000000 in
set_option maxRecDepth 100000 in
theorem c_X9_isCountedY {l : Launch} {Γ : zΓ} {G : zH} {w : Nat}  (hX : zXs Γ)  : zMet l Γ yX9_isCounted cX9_isCounted 1 (some .boolean) 1 [zr 10 w] G (zpi (fun x G' => zsm [1004, 1005, 1045] G G' ∧ LJr G G' ∧ ((x = 0 ∨ x = 1) ∧ (x = 1 → G.1 1045 w 0 ≠ 64 ∧ G'.1 1045 w 0 = G.1 1045 w 0 + 1 ∧ G'.1 1004 w 0 = G.1 1004 w 0 ∧ G'.1 1005 w 0 = G.1 1005 w 0) ∧ (x = 0 → G.1 1045 w 0 = 64 ∧ G'.1 1045 w 0 = G.1 1045 w 0 ∧ G'.1 1004 w 0 = 2 ∧ G'.1 1005 w 0 = G.1 1010 w 0)))) := by
  refine zMet_of RX9 hX (by decide) rfl (Nat.le_of_ble_eq_true rfl) ?_
  intro p e s m args below meth c C hr hlk
  show Z p l e (zrm 1) s m args below meth c Γ 1 0 0 (MQ below (zQc Γ (zpi (fun x G' => zsm [1004, 1005, 1045] G G' ∧ LJr G G' ∧ ((x = 0 ∨ x = 1) ∧ (x = 1 → G.1 1045 w 0 ≠ 64 ∧ G'.1 1045 w 0 = G.1 1045 w 0 + 1 ∧ G'.1 1004 w 0 = G.1 1004 w 0 ∧ G'.1 1005 w 0 = G.1 1005 w 0) ∧ (x = 0 → G.1 1045 w 0 = 64 ∧ G'.1 1045 w 0 = G.1 1045 w 0 ∧ G'.1 1004 w 0 = 2 ∧ G'.1 1005 w 0 = G.1 1010 w 0))))) args s 0 0 (zA Γ)) 0 [some (zr 10 w)] [] G
  refine zs_aload_n (pc := 0) C dX9_isCounted_0 rfl ?_
  refine zs_geti (r := 1045) (pc := 1) C dX9_isCounted_1 w_X9_255 f_10_45 rfl (r_1045 0) (fun v1 e1 l1 u1 => ?_)
  refine zs_bipush (pc := 4) C dX9_isCounted_4 (by decide) (by decide) ?_
  refine zs_icmp_ne (tgt := 15) (pc := 6) C dX9_isCounted_6 (by decide) (fun h6 => ?_) (fun h6 => ?_)
  · skip
    refine zs_aload_n (pc := 15) C dX9_isCounted_15 rfl ?_
    refine zs_dupa (pc := 16) C dX9_isCounted_16 ?_
    refine zs_geti (r := 1045) (pc := 17) C dX9_isCounted_17 w_X9_255 f_10_45 rfl (r_1045 0) (fun v17 e17 l17 u17 => ?_)
    refine zs_iconst (pc := 20) C dX9_isCounted_20 (by decide) ?_
    first | refine zs_iadd (pc := 21) C dX9_isCounted_21 (by omega) ?_ | refine zs_iaddF (pc := 21) C dX9_isCounted_21 (fun z21 hz211 hz212 => ?_)
    refine zs_puti (r := 1045) (pc := 22) C dX9_isCounted_22 w_X9_255 f_10_45 rfl (r_1045 0) (by omega) ?_
    refine zs_iconst (pc := 25) C dX9_isCounted_25 (by decide) ?_
    exact zs_zret (pc := 26) C hr hlk dX9_isCounted_26 (by omega) ⟨by repeat (first | exact zsm_rf | assumption | refine zsm_C (by decide) ?_ | refine zsm_I (by decide) ?_ | refine zsm_J ?_ | refine zsm_c (by assumption) (by decide) ?_), (by with_reducible repeat (first | exact LJr_rf | assumption | refine LJr_I (h := 0) (by decide) (Nat.zero_le _) ?_ | refine LJr_I (h := 3) (by decide) (by omega) ?_ | refine LJr_I (h := 4) (by decide) (by omega) ?_ | refine LJr_I (h := 5) (by decide) (by omega) ?_ | refine LJr_I (h := 7) (by decide) (by omega) ?_ | refine LJr_I (h := 20) (by decide) (by omega) ?_ | refine LJr_I (h := 64) (by decide) (by omega) ?_ | refine LJr_c (by assumption) ?_)), by refine ⟨by omega, fun q => ?_, fun q => ?_⟩ <;> first | (exfalso; omega) | (refine ⟨?_, ?_, ?_, ?_⟩ <;> first | omega | (simp only [zuI_1, zuI_2, zuJ_1, zuJ_2, zuJ_3, zuP_1, zuP_2, zuP_3, zuC_1, zuC_2, reduceIte, Nat.reduceEqDiff, false_and, and_false, true_and, and_true, and_self, or_true, true_or, or_false, false_or] <;> omega))⟩
  · skip
    refine zs_aload_n (pc := 9) C dX9_isCounted_9 rfl ?_
    refine zs_iconst (pc := 10) C dX9_isCounted_10 (by decide) ?_
    refine zVi1 (pc := 11) C dX9_isCounted_11 v_X9_220 (c_X9_wrongY hX ) (by decide) (by decide) ⟨Nat.zero_le _, Nat.zero_le _⟩ (Nat.le_of_ble_eq_true rfl) (fun x11 G11 l11 u11 hp11 => ?_)
    obtain ⟨hz11, lo11, hq11⟩ := hp11
    have t45 := zsm_at hz11 1045 w 0 (by decide)
    exact zs_zret (pc := 14) C hr hlk dX9_isCounted_14 (by omega) ⟨by repeat (first | exact zsm_rf | assumption | refine zsm_C (by decide) ?_ | refine zsm_I (by decide) ?_ | refine zsm_J ?_ | refine zsm_c (by assumption) (by decide) ?_), (by with_reducible repeat (first | exact LJr_rf | assumption | refine LJr_I (h := 0) (by decide) (Nat.zero_le _) ?_ | refine LJr_I (h := 3) (by decide) (by omega) ?_ | refine LJr_I (h := 4) (by decide) (by omega) ?_ | refine LJr_I (h := 5) (by decide) (by omega) ?_ | refine LJr_I (h := 7) (by decide) (by omega) ?_ | refine LJr_I (h := 20) (by decide) (by omega) ?_ | refine LJr_I (h := 64) (by decide) (by omega) ?_ | refine LJr_c (by assumption) ?_)), by refine ⟨by omega, fun q => ?_, fun q => ?_⟩ <;> first | (exfalso; omega) | (refine ⟨?_, ?_, ?_, ?_⟩ <;> first | omega | (simp only [zuI_1, zuI_2, zuJ_1, zuJ_2, zuJ_3, zuP_1, zuP_2, zuP_3, zuC_1, zuC_2, reduceIte, Nat.reduceEqDiff, false_and, and_false, true_and, and_true, and_self, or_true, true_or, or_false, false_or] <;> omega))⟩

set_option maxHeartbeats 4000000 in
set_option maxRecDepth 100000 in
theorem c_X9_waitsForY {l : Launch} {Γ : zΓ} {G : zH} {w : Nat} {k : Int} (hX : zXs Γ) (hk : 0 ≤ k ∧ k ≤ 14) (hn : G.1 1042 w 0 ≤ 95) : zMet l Γ yX9_waitsFor cX9_waitsFor 2 none 0 [zr 10 w, zi k] G (zpv (fun G' => zsm [2077, 1042] G G' ∧ LJr G G' ∧ (G'.1 1042 w 0 = G.1 1042 w 0 + 1 ∧ (∀ j : Nat, G'.1 2077 (Γ.2.1 w 40) j = if j = (G.1 1042 w 0).toNat then k else G.1 2077 (Γ.2.1 w 40) j) ∧ (3 ≤ k → c3 (G'.1 2077 (Γ.2.1 w 40)) (G.1 1042 w 0 + 1).toNat = c3 (G.1 2077 (Γ.2.1 w 40)) (G.1 1042 w 0).toNat + 1) ∧ (k < 3 → c3 (G'.1 2077 (Γ.2.1 w 40)) (G.1 1042 w 0 + 1).toNat = c3 (G.1 2077 (Γ.2.1 w 40)) (G.1 1042 w 0).toNat) ∧ (k < 2 → c0 (G'.1 2077 (Γ.2.1 w 40)) (G.1 1042 w 0 + 1).toNat = c0 (G.1 2077 (Γ.2.1 w 40)) (G.1 1042 w 0).toNat + 1) ∧ (2 ≤ k → c0 (G'.1 2077 (Γ.2.1 w 40)) (G.1 1042 w 0 + 1).toNat = c0 (G.1 2077 (Γ.2.1 w 40)) (G.1 1042 w 0).toNat)))) := by
  refine zMet_of RX9 hX (by decide) rfl (Nat.le_of_ble_eq_true rfl) ?_
  intro p e s m args below meth c C hr hlk
  show Z p l e (zrm 0) s m args below meth c Γ 2 0 0 (MQ below (zQc Γ (zpv (fun G' => zsm [2077, 1042] G G' ∧ LJr G G' ∧ (G'.1 1042 w 0 = G.1 1042 w 0 + 1 ∧ (∀ j : Nat, G'.1 2077 (Γ.2.1 w 40) j = if j = (G.1 1042 w 0).toNat then k else G.1 2077 (Γ.2.1 w 40) j) ∧ (3 ≤ k → c3 (G'.1 2077 (Γ.2.1 w 40)) (G.1 1042 w 0 + 1).toNat = c3 (G.1 2077 (Γ.2.1 w 40)) (G.1 1042 w 0).toNat + 1) ∧ (k < 3 → c3 (G'.1 2077 (Γ.2.1 w 40)) (G.1 1042 w 0 + 1).toNat = c3 (G.1 2077 (Γ.2.1 w 40)) (G.1 1042 w 0).toNat) ∧ (k < 2 → c0 (G'.1 2077 (Γ.2.1 w 40)) (G.1 1042 w 0 + 1).toNat = c0 (G.1 2077 (Γ.2.1 w 40)) (G.1 1042 w 0).toNat + 1) ∧ (2 ≤ k → c0 (G'.1 2077 (Γ.2.1 w 40)) (G.1 1042 w 0 + 1).toNat = c0 (G.1 2077 (Γ.2.1 w 40)) (G.1 1042 w 0).toNat))))) args s 0 0 (zA Γ)) 0 [some (zr 10 w), some (zi k)] [] G
  refine zs_loc 1 rfl (fun ha1 hb1 => ?_)
  refine zs_aload_n (pc := 0) C dX9_waitsFor_0 rfl ?_
  refine zs_getf (pc := 1) C dX9_waitsFor_1 w_X9_75 f_10_40 (by decide) ?_
  refine zs_aload_n (pc := 4) C dX9_waitsFor_4 rfl ?_
  refine zs_geti (r := 1042) (pc := 5) C dX9_waitsFor_5 w_X9_313 f_10_42 rfl (r_1042 0) (fun v5 e5 l5 u5 => ?_)
  refine zs_iload_n (pc := 8) C dX9_waitsFor_8 rfl ?_
  refine zs_iast (r := 2077) (pc := 9) C dX9_waitsFor_9 a_77 (by decide) (by omega) rfl (r_2077 _) (by omega) ?_
  refine zs_heap (P := fun G3 => zsm [2077] G G3 ∧ LJr G G3 ∧ (∀ j : Nat, G3.1 2077 (Γ.2.1 w 40) j = if j = (G.1 1042 w 0).toNat then k else G.1 2077 (Γ.2.1 w 40) j) ∧ (3 ≤ k → c3 (G3.1 2077 (Γ.2.1 w 40)) (G.1 1042 w 0 + 1).toNat = c3 (G.1 2077 (Γ.2.1 w 40)) (G.1 1042 w 0).toNat + 1) ∧ (k < 3 → c3 (G3.1 2077 (Γ.2.1 w 40)) (G.1 1042 w 0 + 1).toNat = c3 (G.1 2077 (Γ.2.1 w 40)) (G.1 1042 w 0).toNat) ∧ (k < 2 → c0 (G3.1 2077 (Γ.2.1 w 40)) (G.1 1042 w 0 + 1).toNat = c0 (G.1 2077 (Γ.2.1 w 40)) (G.1 1042 w 0).toNat + 1) ∧ (2 ≤ k → c0 (G3.1 2077 (Γ.2.1 w 40)) (G.1 1042 w 0 + 1).toNat = c0 (G.1 2077 (Γ.2.1 w 40)) (G.1 1042 w 0).toNat)) ⟨(by repeat (first | exact zsm_rf | assumption | refine zsm_C (by decide) ?_ | refine zsm_I (by decide) ?_ | refine zsm_J ?_ | refine zsm_c (by assumption) (by decide) ?_)), (by with_reducible repeat (first | exact LJr_rf | assumption | refine LJr_I (h := 0) (by decide) (Nat.zero_le _) ?_ | refine LJr_I (h := 3) (by decide) (by omega) ?_ | refine LJr_I (h := 4) (by decide) (by omega) ?_ | refine LJr_I (h := 5) (by decide) (by omega) ?_ | refine LJr_I (h := 7) (by decide) (by omega) ?_ | refine LJr_I (h := 20) (by decide) (by omega) ?_ | refine LJr_I (h := 64) (by decide) (by omega) ?_ | refine LJr_c (by assumption) ?_)), (fun j => by rw [← e5]; simp only [zuI_1, zuI_2, zuJ_1, zuJ_2, zuJ_3, zuP_1, zuP_2, zuP_3, zuC_1, zuC_2, reduceIte, Nat.reduceEqDiff, false_and, and_false, true_and, and_true, and_self, or_true, true_or, or_false, false_or]), by rw [← e5]; exact c_push (by omega)⟩ (fun G3 hG3 => ?_)
  obtain ⟨hh1, lwG3, hh3, hh2⟩ := hG3
  have t42 := zsm_at hh1 1042 w 0 (by decide)
  refine zs_aload_n (pc := 10) C dX9_waitsFor_10 rfl ?_
  refine zs_dupa (pc := 11) C dX9_waitsFor_11 ?_
  refine zs_geti (r := 1042) (pc := 12) C dX9_waitsFor_12 w_X9_313 f_10_42 rfl (r_1042 0) (fun v12 e12 l12 u12 => ?_)
  try simp only [zuI_1, zuI_2, zuJ_1, zuJ_2, zuJ_3, zuP_1, zuP_2, zuP_3, zuC_1, zuC_2, reduceIte, Nat.reduceEqDiff, false_and, and_false, true_and, and_true, and_self, or_true, true_or, or_false, false_or] at e12
  refine zs_iconst (pc := 15) C dX9_waitsFor_15 (by decide) ?_
  first | refine zs_iadd (pc := 16) C dX9_waitsFor_16 (by omega) ?_ | refine zs_iaddF (pc := 16) C dX9_waitsFor_16 (fun z16 hz161 hz162 => ?_)
  refine zs_puti (r := 1042) (pc := 17) C dX9_waitsFor_17 w_X9_313 f_10_42 rfl (r_1042 0) (by omega) ?_
  exact zs_vret (pc := 20) C hr hlk dX9_waitsFor_20 ⟨by repeat (first | exact zsm_rf | assumption | refine zsm_C (by decide) ?_ | refine zsm_I (by decide) ?_ | refine zsm_J ?_ | refine zsm_c (by assumption) (by decide) ?_), (by with_reducible repeat (first | exact LJr_rf | assumption | refine LJr_I (h := 0) (by decide) (Nat.zero_le _) ?_ | refine LJr_I (h := 3) (by decide) (by omega) ?_ | refine LJr_I (h := 4) (by decide) (by omega) ?_ | refine LJr_I (h := 5) (by decide) (by omega) ?_ | refine LJr_I (h := 7) (by decide) (by omega) ?_ | refine LJr_I (h := 20) (by decide) (by omega) ?_ | refine LJr_I (h := 64) (by decide) (by omega) ?_ | refine LJr_c (by assumption) ?_)), ⟨by first | omega | (simp only [zuI_1, zuI_2, zuJ_1, zuJ_2, zuJ_3, zuP_1, zuP_2, zuP_3, zuC_1, zuC_2, reduceIte, Nat.reduceEqDiff, false_and, and_false, true_and, and_true, and_self, or_true, true_or, or_false, false_or] <;> omega), fun j => by simp only [zuI_1, zuI_2, zuJ_1, zuJ_2, zuJ_3, zuP_1, zuP_2, zuP_3, zuC_1, zuC_2, reduceIte, Nat.reduceEqDiff, false_and, and_false, true_and, and_true, and_self, or_true, true_or, or_false, false_or]; exact hh3 j, by rw [zuI_ne (show (2077 : Nat) ≠ 1042 by decide)]; exact hh2⟩⟩

set_option maxHeartbeats 4000000 in
set_option maxRecDepth 100000 in
theorem c_X9_grownY {l : Launch} {Γ : zΓ} {G : zH} {w : Nat} {k a b : Int} (hX : zXs Γ) (hM : MI Γ w G)(hk : 0 ≤ k ∧ k ≤ 14) (ha : 0 ≤ a ∧ a ≤ 9999) (hb : -1 ≤ b ∧ b ≤ 63) (hO : KOK k a b) (hn : G.1 1021 w 0 ≤ 63 ∧ G.1 1043 w 0 ≤ 95) : zMet l Γ yX9_grown cX9_grown 4 none 0 [zr 10 w, zi k, zi a, zi b] G (zpv (fun G' => zsm [2074, 2075, 2076, 2078, 1043, 1021] G G' ∧ LJr G G' ∧ (MI Γ w G' ∧ G'.1 1021 w 0 = G.1 1021 w 0 + 1 ∧ G'.1 1043 w 0 = G.1 1043 w 0 + 1 ∧ (∀ j : Nat, G'.1 2074 (Γ.2.1 w 37) j = if j = (64 + G.1 1021 w 0).toNat then k else G.1 2074 (Γ.2.1 w 37) j) ∧ (∀ j : Nat, G'.1 2075 (Γ.2.1 w 38) j = if j = (64 + G.1 1021 w 0).toNat then a else G.1 2075 (Γ.2.1 w 38) j) ∧ (∀ j : Nat, G'.1 2076 (Γ.2.1 w 39) j = if j = (64 + G.1 1021 w 0).toNat then b else G.1 2076 (Γ.2.1 w 39) j) ∧ (∀ j : Nat, G'.1 2078 (Γ.2.1 w 41) j = if j = (G.1 1043 w 0).toNat then G.1 1021 w 0 else G.1 2078 (Γ.2.1 w 41) j)))) := by
  refine zMet_of RX9 hX (by decide) rfl (Nat.le_of_ble_eq_true rfl) ?_
  intro p e s m args below meth c C hr hlk
  show Z p l e (zrm 0) s m args below meth c Γ 4 0 0 (MQ below (zQc Γ (zpv (fun G' => zsm [2074, 2075, 2076, 2078, 1043, 1021] G G' ∧ LJr G G' ∧ (MI Γ w G' ∧ G'.1 1021 w 0 = G.1 1021 w 0 + 1 ∧ G'.1 1043 w 0 = G.1 1043 w 0 + 1 ∧ (∀ j : Nat, G'.1 2074 (Γ.2.1 w 37) j = if j = (64 + G.1 1021 w 0).toNat then k else G.1 2074 (Γ.2.1 w 37) j) ∧ (∀ j : Nat, G'.1 2075 (Γ.2.1 w 38) j = if j = (64 + G.1 1021 w 0).toNat then a else G.1 2075 (Γ.2.1 w 38) j) ∧ (∀ j : Nat, G'.1 2076 (Γ.2.1 w 39) j = if j = (64 + G.1 1021 w 0).toNat then b else G.1 2076 (Γ.2.1 w 39) j) ∧ (∀ j : Nat, G'.1 2078 (Γ.2.1 w 41) j = if j = (G.1 1043 w 0).toNat then G.1 1021 w 0 else G.1 2078 (Γ.2.1 w 41) j))))) args s 0 0 (zA Γ)) 0 [some (zr 10 w), some (zi k), some (zi a), some (zi b)] [] G
  refine zs_loc 1 rfl (fun ha1 hb1 => ?_)
  refine zs_loc 2 rfl (fun ha2 hb2 => ?_)
  refine zs_loc 3 rfl (fun ha3 hb3 => ?_)
  refine zs_aload_n (pc := 0) C dX9_grown_0 rfl ?_
  refine zs_getf (pc := 1) C dX9_grown_1 w_X9_66 f_10_37 (by decide) ?_
  refine zs_bipush (pc := 4) C dX9_grown_4 (by decide) (by decide) ?_
  refine zs_aload_n (pc := 6) C dX9_grown_6 rfl ?_
  refine zs_geti (r := 1021) (pc := 7) C dX9_grown_7 w_X9_252 f_10_21 rfl (r_1021 0) (fun v7 e7 l7 u7 => ?_)
  first | refine zs_iadd (pc := 10) C dX9_grown_10 (by omega) ?_ | refine zs_iaddF (pc := 10) C dX9_grown_10 (fun z10 hz101 hz102 => ?_)
  refine zs_iload_n (pc := 11) C dX9_grown_11 rfl ?_
  refine zs_iast (r := 2074) (pc := 12) C dX9_grown_12 a_74 (by decide) (by omega) rfl (r_2074 _) (by omega) ?_
  refine zs_aload_n (pc := 13) C dX9_grown_13 rfl ?_
  refine zs_getf (pc := 14) C dX9_grown_14 w_X9_69 f_10_38 (by decide) ?_
  refine zs_bipush (pc := 17) C dX9_grown_17 (by decide) (by decide) ?_
  refine zs_aload_n (pc := 19) C dX9_grown_19 rfl ?_
  refine zs_geti (r := 1021) (pc := 20) C dX9_grown_20 w_X9_252 f_10_21 rfl (r_1021 0) (fun v20 e20 l20 u20 => ?_)
  try simp only [zuI_1, zuI_2, zuJ_1, zuJ_2, zuJ_3, zuP_1, zuP_2, zuP_3, zuC_1, zuC_2, reduceIte, Nat.reduceEqDiff, false_and, and_false, true_and, and_true, and_self, or_true, true_or, or_false, false_or] at e20
  first | refine zs_iadd (pc := 23) C dX9_grown_23 (by omega) ?_ | refine zs_iaddF (pc := 23) C dX9_grown_23 (fun z23 hz231 hz232 => ?_)
  refine zs_iload_n (pc := 24) C dX9_grown_24 rfl ?_
  refine zs_iast (r := 2075) (pc := 25) C dX9_grown_25 a_75 (by decide) (by omega) rfl (r_2075 _) (by omega) ?_
  refine zs_aload_n (pc := 26) C dX9_grown_26 rfl ?_
  refine zs_getf (pc := 27) C dX9_grown_27 w_X9_72 f_10_39 (by decide) ?_
  refine zs_bipush (pc := 30) C dX9_grown_30 (by decide) (by decide) ?_
  refine zs_aload_n (pc := 32) C dX9_grown_32 rfl ?_
  refine zs_geti (r := 1021) (pc := 33) C dX9_grown_33 w_X9_252 f_10_21 rfl (r_1021 0) (fun v33 e33 l33 u33 => ?_)
  try simp only [zuI_1, zuI_2, zuJ_1, zuJ_2, zuJ_3, zuP_1, zuP_2, zuP_3, zuC_1, zuC_2, reduceIte, Nat.reduceEqDiff, false_and, and_false, true_and, and_true, and_self, or_true, true_or, or_false, false_or] at e33
  first | refine zs_iadd (pc := 36) C dX9_grown_36 (by omega) ?_ | refine zs_iaddF (pc := 36) C dX9_grown_36 (fun z36 hz361 hz362 => ?_)
  refine zs_iload_n (pc := 37) C dX9_grown_37 rfl ?_
  refine zs_iast (r := 2076) (pc := 38) C dX9_grown_38 a_76 (by decide) (by omega) rfl (r_2076 _) (by omega) ?_
  refine zs_heap (P := fun G3 => zsm [2074, 2075, 2076] G G3 ∧ LJr G G3 ∧ MI Γ w G3 ∧ (∀ j : Nat, G3.1 2074 (Γ.2.1 w 37) j = if j = (64 + G.1 1021 w 0).toNat then k else G.1 2074 (Γ.2.1 w 37) j) ∧ (∀ j : Nat, G3.1 2075 (Γ.2.1 w 38) j = if j = (64 + G.1 1021 w 0).toNat then a else G.1 2075 (Γ.2.1 w 38) j) ∧ (∀ j : Nat, G3.1 2076 (Γ.2.1 w 39) j = if j = (64 + G.1 1021 w 0).toNat then b else G.1 2076 (Γ.2.1 w 39) j)) ⟨(by repeat (first | exact zsm_rf | assumption | refine zsm_C (by decide) ?_ | refine zsm_I (by decide) ?_ | refine zsm_J ?_ | refine zsm_c (by assumption) (by decide) ?_)), (by with_reducible repeat (first | exact LJr_rf | assumption | refine LJr_I (h := 0) (by decide) (Nat.zero_le _) ?_ | refine LJr_I (h := 3) (by decide) (by omega) ?_ | refine LJr_I (h := 4) (by decide) (by omega) ?_ | refine LJr_I (h := 5) (by decide) (by omega) ?_ | refine LJr_I (h := 7) (by decide) (by omega) ?_ | refine LJr_I (h := 20) (by decide) (by omega) ?_ | refine LJr_I (h := 64) (by decide) (by omega) ?_ | refine LJr_c (by assumption) ?_)), (by rw [show (64 + v20).toNat = (64 + v7).toNat by omega, show (64 + v33).toNat = (64 + v7).toNat by omega]; exact MI_grow hM hO), fun j => by simp only [zuI_1, zuI_2, zuJ_1, zuJ_2, zuJ_3, zuP_1, zuP_2, zuP_3, zuC_1, zuC_2, reduceIte, Nat.reduceEqDiff, false_and, and_false, true_and, and_true, and_self, or_true, true_or, or_false, false_or]; rw [show (64 + v7).toNat = (64 + G.1 1021 w 0).toNat by omega], fun j => by simp only [zuI_1, zuI_2, zuJ_1, zuJ_2, zuJ_3, zuP_1, zuP_2, zuP_3, zuC_1, zuC_2, reduceIte, Nat.reduceEqDiff, false_and, and_false, true_and, and_true, and_self, or_true, true_or, or_false, false_or]; rw [show (64 + v20).toNat = (64 + G.1 1021 w 0).toNat by omega], fun j => by simp only [zuI_1, zuI_2, zuJ_1, zuJ_2, zuJ_3, zuP_1, zuP_2, zuP_3, zuC_1, zuC_2, reduceIte, Nat.reduceEqDiff, false_and, and_false, true_and, and_true, and_self, or_true, true_or, or_false, false_or]; rw [show (64 + v33).toNat = (64 + G.1 1021 w 0).toNat by omega]⟩ (fun G3 hG3 => ?_)
  obtain ⟨hh1, lwG3, hM3, hc1, hc2, hc3⟩ := hG3
  have t43 := zsm_at hh1 1043 w 0 (by decide)
  have t21 := zsm_at hh1 1021 w 0 (by decide)
  refine zs_aload_n (pc := 39) C dX9_grown_39 rfl ?_
  refine zs_getf (pc := 40) C dX9_grown_40 w_X9_78 f_10_41 (by decide) ?_
  refine zs_aload_n (pc := 43) C dX9_grown_43 rfl ?_
  refine zs_geti (r := 1043) (pc := 44) C dX9_grown_44 w_X9_310 f_10_43 rfl (r_1043 0) (fun v44 e44 l44 u44 => ?_)
  try simp only [zuI_1, zuI_2, zuJ_1, zuJ_2, zuJ_3, zuP_1, zuP_2, zuP_3, zuC_1, zuC_2, reduceIte, Nat.reduceEqDiff, false_and, and_false, true_and, and_true, and_self, or_true, true_or, or_false, false_or] at e44
  refine zs_aload_n (pc := 47) C dX9_grown_47 rfl ?_
  refine zs_geti (r := 1021) (pc := 48) C dX9_grown_48 w_X9_252 f_10_21 rfl (r_1021 0) (fun v48 e48 l48 u48 => ?_)
  try simp only [zuI_1, zuI_2, zuJ_1, zuJ_2, zuJ_3, zuP_1, zuP_2, zuP_3, zuC_1, zuC_2, reduceIte, Nat.reduceEqDiff, false_and, and_false, true_and, and_true, and_self, or_true, true_or, or_false, false_or] at e48
  refine zs_iast (r := 2078) (pc := 51) C dX9_grown_51 a_78 (by decide) (by omega) rfl (r_2078 _) (by omega) ?_
  refine zs_aload_n (pc := 52) C dX9_grown_52 rfl ?_
  refine zs_dupa (pc := 53) C dX9_grown_53 ?_
  refine zs_geti (r := 1043) (pc := 54) C dX9_grown_54 w_X9_310 f_10_43 rfl (r_1043 0) (fun v54 e54 l54 u54 => ?_)
  try simp only [zuI_1, zuI_2, zuJ_1, zuJ_2, zuJ_3, zuP_1, zuP_2, zuP_3, zuC_1, zuC_2, reduceIte, Nat.reduceEqDiff, false_and, and_false, true_and, and_true, and_self, or_true, true_or, or_false, false_or] at e54
  refine zs_iconst (pc := 57) C dX9_grown_57 (by decide) ?_
  first | refine zs_iadd (pc := 58) C dX9_grown_58 (by omega) ?_ | refine zs_iaddF (pc := 58) C dX9_grown_58 (fun z58 hz581 hz582 => ?_)
  refine zs_puti (r := 1043) (pc := 59) C dX9_grown_59 w_X9_310 f_10_43 rfl (r_1043 0) (by omega) ?_
  refine zs_aload_n (pc := 62) C dX9_grown_62 rfl ?_
  refine zs_dupa (pc := 63) C dX9_grown_63 ?_
  refine zs_geti (r := 1021) (pc := 64) C dX9_grown_64 w_X9_252 f_10_21 rfl (r_1021 0) (fun v64 e64 l64 u64 => ?_)
  try simp only [zuI_1, zuI_2, zuJ_1, zuJ_2, zuJ_3, zuP_1, zuP_2, zuP_3, zuC_1, zuC_2, reduceIte, Nat.reduceEqDiff, false_and, and_false, true_and, and_true, and_self, or_true, true_or, or_false, false_or] at e64
  refine zs_iconst (pc := 67) C dX9_grown_67 (by decide) ?_
  first | refine zs_iadd (pc := 68) C dX9_grown_68 (by omega) ?_ | refine zs_iaddF (pc := 68) C dX9_grown_68 (fun z68 hz681 hz682 => ?_)
  refine zs_puti (r := 1021) (pc := 69) C dX9_grown_69 w_X9_252 f_10_21 rfl (r_1021 0) (by omega) ?_
  exact zs_vret (pc := 72) C hr hlk dX9_grown_72 ⟨by repeat (first | exact zsm_rf | assumption | refine zsm_C (by decide) ?_ | refine zsm_I (by decide) ?_ | refine zsm_J ?_ | refine zsm_c (by assumption) (by decide) ?_), (by with_reducible repeat (first | exact LJr_rf | assumption | refine LJr_I (h := 0) (by decide) (Nat.zero_le _) ?_ | refine LJr_I (h := 3) (by decide) (by omega) ?_ | refine LJr_I (h := 4) (by decide) (by omega) ?_ | refine LJr_I (h := 5) (by decide) (by omega) ?_ | refine LJr_I (h := 7) (by decide) (by omega) ?_ | refine LJr_I (h := 20) (by decide) (by omega) ?_ | refine LJr_I (h := 64) (by decide) (by omega) ?_ | refine LJr_c (by assumption) ?_)), ⟨by repeat (first | assumption | refine MI_I (by decide) ?_), by first | omega | (simp only [zuI_1, zuI_2, zuJ_1, zuJ_2, zuJ_3, zuP_1, zuP_2, zuP_3, zuC_1, zuC_2, reduceIte, Nat.reduceEqDiff, false_and, and_false, true_and, and_true, and_self, or_true, true_or, or_false, false_or] <;> omega), by first | omega | (simp only [zuI_1, zuI_2, zuJ_1, zuJ_2, zuJ_3, zuP_1, zuP_2, zuP_3, zuC_1, zuC_2, reduceIte, Nat.reduceEqDiff, false_and, and_false, true_and, and_true, and_self, or_true, true_or, or_false, false_or] <;> omega), fun j => by simp only [zuI_1, zuI_2, zuJ_1, zuJ_2, zuJ_3, zuP_1, zuP_2, zuP_3, zuC_1, zuC_2, reduceIte, Nat.reduceEqDiff, false_and, and_false, true_and, and_true, and_self, or_true, true_or, or_false, false_or]; exact hc1 j, fun j => by simp only [zuI_1, zuI_2, zuJ_1, zuJ_2, zuJ_3, zuP_1, zuP_2, zuP_3, zuC_1, zuC_2, reduceIte, Nat.reduceEqDiff, false_and, and_false, true_and, and_true, and_self, or_true, true_or, or_false, false_or]; exact hc2 j, fun j => by simp only [zuI_1, zuI_2, zuJ_1, zuJ_2, zuJ_3, zuP_1, zuP_2, zuP_3, zuC_1, zuC_2, reduceIte, Nat.reduceEqDiff, false_and, and_false, true_and, and_true, and_self, or_true, true_or, or_false, false_or]; exact hc3 j, fun j => by simp only [zuI_1, zuI_2, zuJ_1, zuJ_2, zuJ_3, zuP_1, zuP_2, zuP_3, zuC_1, zuC_2, reduceIte, Nat.reduceEqDiff, false_and, and_false, true_and, and_true, and_self, or_true, true_or, or_false, false_or]; rw [hh1.1 2078 (by decide), show v44.toNat = (G.1 1043 w 0).toNat by omega, show v48 = G.1 1021 w 0 by omega]⟩⟩

set_option maxHeartbeats 4000000 in
set_option maxRecDepth 100000 in
theorem c_X9_bindY {l : Launch} {Γ : zΓ} {G : zH} {w : Nat} {r : Int} {A : aS}  (hX : zXs Γ) (hM : MI Γ w G)(hQ : PI Γ w G) (hK : gK Γ w A G) (hE : gE Γ w A G) (h1r : 1 ≤ r) (hw : G.1 1046 w 0 = 0) : zMet l Γ yX9_bind cX9_bind 5 none 1 [zr 10 w, zi r] G (zpv (fun G' => zsm [2074, 2075, 2076, 2078, 1043, 1021, 1042] G G' ∧ LJr G G' ∧ (MI Γ w G' ∧ PI Γ w G' ∧ (r ≤ 1 → G'.1 1042 w 0 = 0 ∨ G'.1 2077 (Γ.2.1 w 40) (G'.1 1042 w 0 - 1).toNat < 2) ∧ gK Γ w (sRel r A) G' ∧ gE Γ w (sRel r A) G'))) := by
  refine zMet_of RX9 hX (by decide) rfl (Nat.le_of_ble_eq_true rfl) ?_
  intro p e s m args below meth c C hr hlk
  show Z p l e (zrm 1) s m args below meth c Γ 5 0 0 (MQ below (zQc Γ (zpv (fun G' => zsm [2074, 2075, 2076, 2078, 1043, 1021, 1042] G G' ∧ LJr G G' ∧ (MI Γ w G' ∧ PI Γ w G' ∧ (r ≤ 1 → G'.1 1042 w 0 = 0 ∨ G'.1 2077 (Γ.2.1 w 40) (G'.1 1042 w 0 - 1).toNat < 2) ∧ gK Γ w (sRel r A) G' ∧ gE Γ w (sRel r A) G')))) args s 0 0 (zA Γ)) 0 [some (zr 10 w), some (zi r), none, none, none] [] G
  refine zs_loc 1 rfl (fun ha1 hb1 => ?_)
  have L0 : ∀ (nn : Nat) (G1 : zH) (A1 : aS), (zsm [2074, 2075, 2076, 2078, 1043, 1021, 1042] G G1) → (MI Γ w G1) → (PI Γ w G1) → (gK Γ w A1 G1) → (gE Γ w A1 G1) → (sRel r A1 = sRel r A) → (LJr G G1) → (G1.1 1042 w 0).toNat < nn → Z p l e (zrm 1) s m args below meth c Γ 5 0 0 (MQ below (zQc Γ (zpv (fun G' => zsm [2074, 2075, 2076, 2078, 1043, 1021, 1042] G G' ∧ LJr G G' ∧ (MI Γ w G' ∧ PI Γ w G' ∧ (r ≤ 1 → G'.1 1042 w 0 = 0 ∨ G'.1 2077 (Γ.2.1 w 40) (G'.1 1042 w 0 - 1).toNat < 2) ∧ gK Γ w (sRel r A) G' ∧ gE Γ w (sRel r A) G')))) args s 0 0 (zA Γ)) 0 [some (zr 10 w), some (zi r), none, none, none] [] G1 := by
    intro nn
    induction nn with
    | zero => intro G1 A1 h0_0 h0_1 h0_2 h0_3 h0_4 h0_5 h0_6 hm; exact absurd hm (Nat.not_lt_zero _)
    | succ nn ih0 =>
      intro G1 A1 h0_0 h0_1 h0_2 h0_3 h0_4 h0_5 h0_6 hm0
      have t46 := zsm_at h0_0 1046 w 0 (by decide)
      have p1 := h0_2.1
      have p2 := h0_2.2.1
      have p3 := h0_2.2.2.1
      have p4 := h0_2.2.2.2
      have k3 := c3_le (G1.1 2077 (Γ.2.1 w 40)) (G1.1 1042 w 0).toNat
      have k0 := c0_le (G1.1 2077 (Γ.2.1 w 40)) (G1.1 1042 w 0).toNat
      refine zs_good (fun hGdg => ?_)
      have hbg_1042 := hGdg.1 1042 w 0
      rw [r_1042] at hbg_1042
      have hbg_1044 := hGdg.1 1044 w 0
      rw [r_1044] at hbg_1044
      have hbg_1045 := hGdg.1 1045 w 0
      rw [r_1045] at hbg_1045
      have hbg_1021 := hGdg.1 1021 w 0
      rw [r_1021] at hbg_1021
      have a42 := h0_4.1
      have a21 := h0_3.1
      refine zs_aload_n (pc := 0) C dX9_bind_0 rfl ?_
      refine zs_geti (r := 1042) (pc := 1) C dX9_bind_1 w_X9_313 f_10_42 rfl (r_1042 0) (fun v1 e1 l1 u1 => ?_)
      refine zs_if_le (tgt := 76) (pc := 4) C dX9_bind_4 (by decide) (fun h4 => ?_) (fun h4 => ?_)
      · skip
        have hend : sRel r A = A1 := by rw [← h0_5]; exact rel_e (by omega)
        exact zs_vret (pc := 76) C hr hlk dX9_bind_76 ⟨by repeat (first | exact zsm_rf | assumption | refine zsm_C (by decide) ?_ | refine zsm_I (by decide) ?_ | refine zsm_J ?_ | refine zsm_c (by assumption) (by decide) ?_), (by with_reducible repeat (first | exact LJr_rf | assumption | refine LJr_I (h := 0) (by decide) (Nat.zero_le _) ?_ | refine LJr_I (h := 3) (by decide) (by omega) ?_ | refine LJr_I (h := 4) (by decide) (by omega) ?_ | refine LJr_I (h := 5) (by decide) (by omega) ?_ | refine LJr_I (h := 7) (by decide) (by omega) ?_ | refine LJr_I (h := 20) (by decide) (by omega) ?_ | refine LJr_I (h := 64) (by decide) (by omega) ?_ | refine LJr_c (by assumption) ?_)), ⟨h0_1, h0_2, fun q => (by first | (left; omega) | (right; rw [← e12, ← e17, w18.1]; exact bnd_z w18.2 (by omega))), by rw [hend]; exact h0_3, by rw [hend]; exact h0_4⟩⟩
      · skip
        refine zs_aload_n (pc := 7) C dX9_bind_7 rfl ?_
        refine zs_getf (pc := 8) C dX9_bind_8 w_X9_75 f_10_40 (by decide) ?_
        refine zs_aload_n (pc := 11) C dX9_bind_11 rfl ?_
        refine zs_geti (r := 1042) (pc := 12) C dX9_bind_12 w_X9_313 f_10_42 rfl (r_1042 0) (fun v12 e12 l12 u12 => ?_)
        refine zs_iconst (pc := 15) C dX9_bind_15 (by decide) ?_
        first | refine zs_isub (pc := 16) C dX9_bind_16 (by omega) ?_ | refine zs_isubF (pc := 16) C dX9_bind_16 (fun z16 hz161 hz162 => ?_)
        refine zs_iald (r := 2077) (pc := 17) C dX9_bind_17 a_77 (by decide) (by omega) rfl (r_2077 _) (fun v17 e17 l17 u17 => ?_)
        have w17 : v17 = G1.1 2077 (Γ.2.1 w 40) (G1.1 1042 w 0 - 1).toNat := by rw [e17, e12]
        have w18 := h0_4.2.2.2.2.2.1 (A1 22 0 - 1).toNat (by omega)
        rw [show (A1 22 0 - 1).toNat = (G1.1 1042 w 0 - 1).toNat by omega, ← w17, show (G1.1 1042 w 0 - 1).toNat = (A1 22 0 - 1).toNat by omega] at w18
        refine zSip1 (pc := 18) C dX9_bind_18 s_X9_316 (c_X9_rank hX ) (by decide) ⟨Nat.zero_le _, Nat.zero_le _⟩ (Nat.le_of_ble_eq_true rfl) (fun x18 l18 u18 hp18 => ?_)
        have hq18 := hp18
        have hrb := rank_bnd w18.1 w18.2 hq18
        clear hq18 hp18
        refine zs_iload_n (pc := 21) C dX9_bind_21 rfl ?_
        refine zs_icmp_lt (tgt := 76) (pc := 22) C dX9_bind_22 (by decide) (fun h22 => ?_) (fun h22 => ?_)
        · skip
          have hend : sRel r A = A1 := by rw [← h0_5]; exact rel_e (by omega)
          exact zs_vret (pc := 76) C hr hlk dX9_bind_76 ⟨by repeat (first | exact zsm_rf | assumption | refine zsm_C (by decide) ?_ | refine zsm_I (by decide) ?_ | refine zsm_J ?_ | refine zsm_c (by assumption) (by decide) ?_), (by with_reducible repeat (first | exact LJr_rf | assumption | refine LJr_I (h := 0) (by decide) (Nat.zero_le _) ?_ | refine LJr_I (h := 3) (by decide) (by omega) ?_ | refine LJr_I (h := 4) (by decide) (by omega) ?_ | refine LJr_I (h := 5) (by decide) (by omega) ?_ | refine LJr_I (h := 7) (by decide) (by omega) ?_ | refine LJr_I (h := 20) (by decide) (by omega) ?_ | refine LJr_I (h := 64) (by decide) (by omega) ?_ | refine LJr_c (by assumption) ?_)), ⟨h0_1, h0_2, fun q => (by first | (left; omega) | (right; rw [← e12, ← e17, w18.1]; exact bnd_z w18.2 (by omega))), by rw [hend]; exact h0_3, by rw [hend]; exact h0_4⟩⟩
        · skip
          have hrk := rk_ge w18.2 (by omega)
          rw [← w18.1] at hrk
          have c3p := c3_pop (W := G1.1 2077 (Γ.2.1 w 40)) (n := G1.1 1042 w 0) (by omega)
          have c0p := c0_pop (W := G1.1 2077 (Γ.2.1 w 40)) (n := G1.1 1042 w 0) (by omega)
          have c3l := c3_le (G1.1 2077 (Γ.2.1 w 40)) (G1.1 1042 w 0 - 1).toNat
          have c0l := c0_le (G1.1 2077 (Γ.2.1 w 40)) (G1.1 1042 w 0 - 1).toNat
          have k17 : 2 ≤ v17 := by omega
          rw [← w17] at c3p c0p
          refine zs_aload_n (pc := 25) C dX9_bind_25 rfl ?_
          refine zs_dupa (pc := 26) C dX9_bind_26 ?_
          refine zs_geti (r := 1042) (pc := 27) C dX9_bind_27 w_X9_313 f_10_42 rfl (r_1042 0) (fun v27 e27 l27 u27 => ?_)
          refine zs_iconst (pc := 30) C dX9_bind_30 (by decide) ?_
          first | refine zs_isub (pc := 31) C dX9_bind_31 (by omega) ?_ | refine zs_isubF (pc := 31) C dX9_bind_31 (fun z31 hz311 hz312 => ?_)
          refine zs_puti (r := 1042) (pc := 32) C dX9_bind_32 w_X9_313 f_10_42 rfl (r_1042 0) (by omega) ?_
          refine zs_aload_n (pc := 35) C dX9_bind_35 rfl ?_
          refine zs_getf (pc := 36) C dX9_bind_36 w_X9_75 f_10_40 (by decide) ?_
          refine zs_aload_n (pc := 39) C dX9_bind_39 rfl ?_
          refine zs_geti (r := 1042) (pc := 40) C dX9_bind_40 w_X9_313 f_10_42 rfl (r_1042 0) (fun v40 e40 l40 u40 => ?_)
          try simp only [zuI_1, zuI_2, zuJ_1, zuJ_2, zuJ_3, zuP_1, zuP_2, zuP_3, zuC_1, zuC_2, reduceIte, Nat.reduceEqDiff, false_and, and_false, true_and, and_true, and_self, or_true, true_or, or_false, false_or] at e40
          refine zs_iald (r := 2077) (pc := 43) C dX9_bind_43 a_77 (by decide) (by omega) rfl (r_2077 _) (fun v43 e43 l43 u43 => ?_)
          try simp only [zuI_1, zuI_2, zuJ_1, zuJ_2, zuJ_3, zuP_1, zuP_2, zuP_3, zuC_1, zuC_2, reduceIte, Nat.reduceEqDiff, false_and, and_false, true_and, and_true, and_self, or_true, true_or, or_false, false_or] at e43
          have w43 : v43 = v17 := by rw [w17, e43, show v40.toNat = (G1.1 1042 w 0 - 1).toNat by omega]
          refine zs_istore_n (pc := 44) C dX9_bind_44 (by decide) ?_
          dsimp only [zset, zclr, znone]
          refine zs_iload_n (pc := 45) C dX9_bind_45 rfl ?_
          refine zs_iconst (pc := 46) C dX9_bind_46 (by decide) ?_
          refine zs_icmp_ne (tgt := 54) (pc := 47) C dX9_bind_47 (by decide) (fun h47 => ?_) (fun h47 => ?_)
          · skip
            have nt : (A1 26 (A1 22 0 - 1).toNat) ≠ 4 := by omega
            refine zs_aload_n (pc := 54) C dX9_bind_54 rfl ?_
            refine zVi0 (pc := 55) C dX9_bind_55 v_X9_320 (c_X9_dropHeldY hX (by first | omega | (simp only [zuI_1, zuI_2, zuJ_1, zuJ_2, zuJ_3, zuP_1, zuP_2, zuP_3, zuC_1, zuC_2, reduceIte, Nat.reduceEqDiff, false_and, and_false, true_and, and_true, and_self, or_true, true_or, or_false, false_or]; omega))) (by decide) (by decide) ⟨Nat.zero_le _, Nat.zero_le _⟩ (Nat.le_of_ble_eq_true rfl) (fun x55 G55 l55 u55 hp55 => ?_)
            obtain ⟨hz55, lo55, hq55⟩ := hp55
            try simp only [zuI_1, zuI_2, zuJ_1, zuJ_2, zuJ_3, zuP_1, zuP_2, zuP_3, zuC_1, zuC_2, reduceIte, Nat.reduceEqDiff, false_and, and_false, true_and, and_true, and_self, or_true, true_or, or_false, false_or] at hq55
            have tr55_1042 := zsm_at hz55 1042 w 0 (by decide)
            try simp only [zuI_1, zuI_2, zuJ_1, zuJ_2, zuJ_3, zuP_1, zuP_2, zuP_3, zuC_1, zuC_2, reduceIte, Nat.reduceEqDiff, false_and, and_false, true_and, and_true, and_self, or_true, true_or, or_false, false_or] at tr55_1042
            have tr55_1044 := zsm_at hz55 1044 w 0 (by decide)
            try simp only [zuI_1, zuI_2, zuJ_1, zuJ_2, zuJ_3, zuP_1, zuP_2, zuP_3, zuC_1, zuC_2, reduceIte, Nat.reduceEqDiff, false_and, and_false, true_and, and_true, and_self, or_true, true_or, or_false, false_or] at tr55_1044
            have tr55_1045 := zsm_at hz55 1045 w 0 (by decide)
            try simp only [zuI_1, zuI_2, zuJ_1, zuJ_2, zuJ_3, zuP_1, zuP_2, zuP_3, zuC_1, zuC_2, reduceIte, Nat.reduceEqDiff, false_and, and_false, true_and, and_true, and_self, or_true, true_or, or_false, false_or] at tr55_1045
            have tr55_1046 := zsm_at hz55 1046 w 0 (by decide)
            try simp only [zuI_1, zuI_2, zuJ_1, zuJ_2, zuJ_3, zuP_1, zuP_2, zuP_3, zuC_1, zuC_2, reduceIte, Nat.reduceEqDiff, false_and, and_false, true_and, and_true, and_self, or_true, true_or, or_false, false_or] at tr55_1046
            have tr55_1021 := zsm_at hz55 1021 w 0 (by decide)
            try simp only [zuI_1, zuI_2, zuJ_1, zuJ_2, zuJ_3, zuP_1, zuP_2, zuP_3, zuC_1, zuC_2, reduceIte, Nat.reduceEqDiff, false_and, and_false, true_and, and_true, and_self, or_true, true_or, or_false, false_or] at tr55_1021
            have tr55_1007 := zsm_at hz55 1007 w 0 (by decide)
            try simp only [zuI_1, zuI_2, zuJ_1, zuJ_2, zuJ_3, zuP_1, zuP_2, zuP_3, zuC_1, zuC_2, reduceIte, Nat.reduceEqDiff, false_and, and_false, true_and, and_true, and_self, or_true, true_or, or_false, false_or] at tr55_1007
            have tr55_1010 := zsm_at hz55 1010 w 0 (by decide)
            try simp only [zuI_1, zuI_2, zuJ_1, zuJ_2, zuJ_3, zuP_1, zuP_2, zuP_3, zuC_1, zuC_2, reduceIte, Nat.reduceEqDiff, false_and, and_false, true_and, and_true, and_self, or_true, true_or, or_false, false_or] at tr55_1010
            have tr55_1006 := zsm_at hz55 1006 w 0 (by decide)
            try simp only [zuI_1, zuI_2, zuJ_1, zuJ_2, zuJ_3, zuP_1, zuP_2, zuP_3, zuC_1, zuC_2, reduceIte, Nat.reduceEqDiff, false_and, and_false, true_and, and_true, and_self, or_true, true_or, or_false, false_or] at tr55_1006
            have tr55_1008 := zsm_at hz55 1008 w 0 (by decide)
            try simp only [zuI_1, zuI_2, zuJ_1, zuJ_2, zuJ_3, zuP_1, zuP_2, zuP_3, zuC_1, zuC_2, reduceIte, Nat.reduceEqDiff, false_and, and_false, true_and, and_true, and_self, or_true, true_or, or_false, false_or] at tr55_1008
            have tr55_1009 := zsm_at hz55 1009 w 0 (by decide)
            try simp only [zuI_1, zuI_2, zuJ_1, zuJ_2, zuJ_3, zuP_1, zuP_2, zuP_3, zuC_1, zuC_2, reduceIte, Nat.reduceEqDiff, false_and, and_false, true_and, and_true, and_self, or_true, true_or, or_false, false_or] at tr55_1009
            have h55 : x55 = A1 30 (A1 29 0 - 1).toNat := by
              have q9 := hq55.1
              rw [show (G1.1 1043 w 0 - 1).toNat = (A1 29 0 - 1).toNat by have := h0_4.2.1; omega, h0_4.2.2.2.2.2.2 _ (by have := h0_4.2.1; omega)] at q9
              exact q9
            refine zs_istore_n (pc := 58) C dX9_bind_58 (by decide) ?_
            dsimp only [zset, zclr, znone]
            refine zs_aload_n (pc := 59) C dX9_bind_59 rfl ?_
            refine zVi0 (pc := 60) C dX9_bind_60 v_X9_320 (c_X9_dropHeldY hX (by omega)) (by decide) (by decide) ⟨Nat.zero_le _, Nat.zero_le _⟩ (Nat.le_of_ble_eq_true rfl) (fun x60 G60 l60 u60 hp60 => ?_)
            obtain ⟨hz60, lo60, hq60⟩ := hp60
            have tr60_1042 := zsm_at hz60 1042 w 0 (by decide)
            try simp only [zuI_1, zuI_2, zuJ_1, zuJ_2, zuJ_3, zuP_1, zuP_2, zuP_3, zuC_1, zuC_2, reduceIte, Nat.reduceEqDiff, false_and, and_false, true_and, and_true, and_self, or_true, true_or, or_false, false_or] at tr60_1042
            have tr60_1044 := zsm_at hz60 1044 w 0 (by decide)
            try simp only [zuI_1, zuI_2, zuJ_1, zuJ_2, zuJ_3, zuP_1, zuP_2, zuP_3, zuC_1, zuC_2, reduceIte, Nat.reduceEqDiff, false_and, and_false, true_and, and_true, and_self, or_true, true_or, or_false, false_or] at tr60_1044
            have tr60_1045 := zsm_at hz60 1045 w 0 (by decide)
            try simp only [zuI_1, zuI_2, zuJ_1, zuJ_2, zuJ_3, zuP_1, zuP_2, zuP_3, zuC_1, zuC_2, reduceIte, Nat.reduceEqDiff, false_and, and_false, true_and, and_true, and_self, or_true, true_or, or_false, false_or] at tr60_1045
            have tr60_1046 := zsm_at hz60 1046 w 0 (by decide)
            try simp only [zuI_1, zuI_2, zuJ_1, zuJ_2, zuJ_3, zuP_1, zuP_2, zuP_3, zuC_1, zuC_2, reduceIte, Nat.reduceEqDiff, false_and, and_false, true_and, and_true, and_self, or_true, true_or, or_false, false_or] at tr60_1046
            have tr60_1021 := zsm_at hz60 1021 w 0 (by decide)
            try simp only [zuI_1, zuI_2, zuJ_1, zuJ_2, zuJ_3, zuP_1, zuP_2, zuP_3, zuC_1, zuC_2, reduceIte, Nat.reduceEqDiff, false_and, and_false, true_and, and_true, and_self, or_true, true_or, or_false, false_or] at tr60_1021
            have tr60_1007 := zsm_at hz60 1007 w 0 (by decide)
            try simp only [zuI_1, zuI_2, zuJ_1, zuJ_2, zuJ_3, zuP_1, zuP_2, zuP_3, zuC_1, zuC_2, reduceIte, Nat.reduceEqDiff, false_and, and_false, true_and, and_true, and_self, or_true, true_or, or_false, false_or] at tr60_1007
            have tr60_1010 := zsm_at hz60 1010 w 0 (by decide)
            try simp only [zuI_1, zuI_2, zuJ_1, zuJ_2, zuJ_3, zuP_1, zuP_2, zuP_3, zuC_1, zuC_2, reduceIte, Nat.reduceEqDiff, false_and, and_false, true_and, and_true, and_self, or_true, true_or, or_false, false_or] at tr60_1010
            have tr60_1006 := zsm_at hz60 1006 w 0 (by decide)
            try simp only [zuI_1, zuI_2, zuJ_1, zuJ_2, zuJ_3, zuP_1, zuP_2, zuP_3, zuC_1, zuC_2, reduceIte, Nat.reduceEqDiff, false_and, and_false, true_and, and_true, and_self, or_true, true_or, or_false, false_or] at tr60_1006
            have tr60_1008 := zsm_at hz60 1008 w 0 (by decide)
            try simp only [zuI_1, zuI_2, zuJ_1, zuJ_2, zuJ_3, zuP_1, zuP_2, zuP_3, zuC_1, zuC_2, reduceIte, Nat.reduceEqDiff, false_and, and_false, true_and, and_true, and_self, or_true, true_or, or_false, false_or] at tr60_1008
            have tr60_1009 := zsm_at hz60 1009 w 0 (by decide)
            try simp only [zuI_1, zuI_2, zuJ_1, zuJ_2, zuJ_3, zuP_1, zuP_2, zuP_3, zuC_1, zuC_2, reduceIte, Nat.reduceEqDiff, false_and, and_false, true_and, and_true, and_self, or_true, true_or, or_false, false_or] at tr60_1009
            refine zs_istore (pc := 63) C dX9_bind_63 (by decide) ?_
            dsimp only [zset, zclr, znone]
            refine zs_aload_n (pc := 65) C dX9_bind_65 rfl ?_
            refine zs_iload_n (pc := 66) C dX9_bind_66 rfl ?_
            refine zs_iload (pc := 67) C dX9_bind_67 rfl ?_
            refine zs_iload_n (pc := 69) C dX9_bind_69 rfl ?_
            refine zVv3 (pc := 70) C dX9_bind_70 v_X9_324 (c_X9_grownY hX (by repeat (first | assumption | refine MI_I (by decide) ?_ | refine MI_J ?_ | refine MI_sm (by assumption) (by decide) ?_ | refine MI_sn (by assumption) (by decide) ?_)) (by first | omega | (simp only [zuI_1, zuI_2, zuJ_1, zuJ_2, zuJ_3, zuP_1, zuP_2, zuP_3, zuC_1, zuC_2, reduceIte, Nat.reduceEqDiff, false_and, and_false, true_and, and_true, and_self, or_true, true_or, or_false, false_or]; omega)) (by first | omega | (simp only [zuI_1, zuI_2, zuJ_1, zuJ_2, zuJ_3, zuP_1, zuP_2, zuP_3, zuC_1, zuC_2, reduceIte, Nat.reduceEqDiff, false_and, and_false, true_and, and_true, and_self, or_true, true_or, or_false, false_or]; omega)) (by first | omega | (simp only [zuI_1, zuI_2, zuJ_1, zuJ_2, zuJ_3, zuP_1, zuP_2, zuP_3, zuC_1, zuC_2, reduceIte, Nat.reduceEqDiff, false_and, and_false, true_and, and_true, and_self, or_true, true_or, or_false, false_or]; omega)) ⟨fun q => by omega, fun q => by omega, fun q => by omega⟩ (by first | omega | (simp only [zuI_1, zuI_2, zuJ_1, zuJ_2, zuJ_3, zuP_1, zuP_2, zuP_3, zuC_1, zuC_2, reduceIte, Nat.reduceEqDiff, false_and, and_false, true_and, and_true, and_self, or_true, true_or, or_false, false_or]; omega))) (by decide) (by decide) ⟨Nat.zero_le _, Nat.zero_le _⟩ (Nat.le_of_ble_eq_true rfl) (fun G70 hp70 => ?_)
            obtain ⟨hz70, lo70, hq70⟩ := hp70
            have tr70_1042 := zsm_at hz70 1042 w 0 (by decide)
            try simp only [zuI_1, zuI_2, zuJ_1, zuJ_2, zuJ_3, zuP_1, zuP_2, zuP_3, zuC_1, zuC_2, reduceIte, Nat.reduceEqDiff, false_and, and_false, true_and, and_true, and_self, or_true, true_or, or_false, false_or] at tr70_1042
            have tr70_1044 := zsm_at hz70 1044 w 0 (by decide)
            try simp only [zuI_1, zuI_2, zuJ_1, zuJ_2, zuJ_3, zuP_1, zuP_2, zuP_3, zuC_1, zuC_2, reduceIte, Nat.reduceEqDiff, false_and, and_false, true_and, and_true, and_self, or_true, true_or, or_false, false_or] at tr70_1044
            have tr70_1045 := zsm_at hz70 1045 w 0 (by decide)
            try simp only [zuI_1, zuI_2, zuJ_1, zuJ_2, zuJ_3, zuP_1, zuP_2, zuP_3, zuC_1, zuC_2, reduceIte, Nat.reduceEqDiff, false_and, and_false, true_and, and_true, and_self, or_true, true_or, or_false, false_or] at tr70_1045
            have tr70_1046 := zsm_at hz70 1046 w 0 (by decide)
            try simp only [zuI_1, zuI_2, zuJ_1, zuJ_2, zuJ_3, zuP_1, zuP_2, zuP_3, zuC_1, zuC_2, reduceIte, Nat.reduceEqDiff, false_and, and_false, true_and, and_true, and_self, or_true, true_or, or_false, false_or] at tr70_1046
            have tr70_1007 := zsm_at hz70 1007 w 0 (by decide)
            try simp only [zuI_1, zuI_2, zuJ_1, zuJ_2, zuJ_3, zuP_1, zuP_2, zuP_3, zuC_1, zuC_2, reduceIte, Nat.reduceEqDiff, false_and, and_false, true_and, and_true, and_self, or_true, true_or, or_false, false_or] at tr70_1007
            have tr70_1010 := zsm_at hz70 1010 w 0 (by decide)
            try simp only [zuI_1, zuI_2, zuJ_1, zuJ_2, zuJ_3, zuP_1, zuP_2, zuP_3, zuC_1, zuC_2, reduceIte, Nat.reduceEqDiff, false_and, and_false, true_and, and_true, and_self, or_true, true_or, or_false, false_or] at tr70_1010
            have tr70_1006 := zsm_at hz70 1006 w 0 (by decide)
            try simp only [zuI_1, zuI_2, zuJ_1, zuJ_2, zuJ_3, zuP_1, zuP_2, zuP_3, zuC_1, zuC_2, reduceIte, Nat.reduceEqDiff, false_and, and_false, true_and, and_true, and_self, or_true, true_or, or_false, false_or] at tr70_1006
            have tr70_1008 := zsm_at hz70 1008 w 0 (by decide)
            try simp only [zuI_1, zuI_2, zuJ_1, zuJ_2, zuJ_3, zuP_1, zuP_2, zuP_3, zuC_1, zuC_2, reduceIte, Nat.reduceEqDiff, false_and, and_false, true_and, and_true, and_self, or_true, true_or, or_false, false_or] at tr70_1008
            have tr70_1009 := zsm_at hz70 1009 w 0 (by decide)
            try simp only [zuI_1, zuI_2, zuJ_1, zuJ_2, zuJ_3, zuP_1, zuP_2, zuP_3, zuC_1, zuC_2, reduceIte, Nat.reduceEqDiff, false_and, and_false, true_and, and_true, and_self, or_true, true_or, or_false, false_or] at tr70_1009
            have e77 : G70.1 2077 = G1.1 2077 := by rw [hz70.1 2077 (by decide), hz60.1 2077 (by decide)]; first | rw [hz55.1 2077 (by decide), zuI_ne (show (2077 : Nat) ≠ 1042 by decide)] | rw [zuI_ne (show (2077 : Nat) ≠ 1042 by decide)]
            have e42 : G70.1 1042 w 0 = G1.1 1042 w 0 - 1 := by omega
            have hPI : PI Γ w G70 := by
              unfold PI
              rw [e77, e42]
              exact ⟨by omega, by omega, by omega, fun q => by omega⟩
            have hMI := hq70.1
            have s2074 : G60.1 2074 = G1.1 2074 := by rw [hz60.1 2074 (by decide)]; first | rw [hz55.1 2074 (by decide), zuI_nf (by decide)] | rw [zuI_nf (by decide)]
            have s2075 : G60.1 2075 = G1.1 2075 := by rw [hz60.1 2075 (by decide)]; first | rw [hz55.1 2075 (by decide), zuI_nf (by decide)] | rw [zuI_nf (by decide)]
            have s2076 : G60.1 2076 = G1.1 2076 := by rw [hz60.1 2076 (by decide)]; first | rw [hz55.1 2076 (by decide), zuI_nf (by decide)] | rw [zuI_nf (by decide)]
            have s2078 : G60.1 2078 = G1.1 2078 := by rw [hz60.1 2078 (by decide)]; first | rw [hz55.1 2078 (by decide), zuI_nf (by decide)] | rw [zuI_nf (by decide)]
            have a43 := h0_4.2.1
            have a44 := h0_4.2.2.1
            have a46 := h0_4.2.2.2.1
            have a47 := h0_4.2.2.2.2.1
            have a45 := h0_3.2.1
            have a78 := h0_4.2.2.2.2.2.2
            have g70 := hq70.2.2.2
            rw [s2074, s2075, s2076, s2078] at g70
            obtain ⟨g1, g2, g3, g4⟩ := g70
            have t47 := zsm_at hz70 1047 w 0 (by decide)
            have t47b := zsm_at hz60 1047 w 0 (by decide)
            try have t47c := zsm_at hz55 1047 w 0 (by decide)
            try simp only [zuI_1, zuI_2, zuJ_1, zuJ_2, zuJ_3, zuP_1, zuP_2, zuP_3, zuC_1, zuC_2, reduceIte, Nat.reduceEqDiff, false_and, and_false, true_and, and_true, and_self, or_true, true_or, or_false, false_or] at t47c
            try simp only [zuI_1, zuI_2, zuJ_1, zuJ_2, zuJ_3, zuP_1, zuP_2, zuP_3, zuC_1, zuC_2, reduceIte, Nat.reduceEqDiff, false_and, and_false, true_and, and_true, and_self, or_true, true_or, or_false, false_or] at t47b
            have hgo : gK Γ w (sWrite (A1 26 (A1 22 0 - 1).toNat) 0 (gOp (A1 26 (A1 22 0 - 1).toNat) (up A1 22 0 (A1 22 0 - 1)))) G70 ∧ gE Γ w (sWrite (A1 26 (A1 22 0 - 1).toNat) 0 (gOp (A1 26 (A1 22 0 - 1).toNat) (up A1 22 0 (A1 22 0 - 1)))) G70 := by
              first
              | (have h60 : x60 = A1 30 (A1 29 0 - 1).toNat := (by
                   have q9 := hq60.1
                   try rw [hz55.1 2078 (by decide)] at q9
                   try simp only [zuI_1, zuI_2, zuJ_1, zuJ_2, zuJ_3, zuP_1, zuP_2, zuP_3, zuC_1, zuC_2, reduceIte, Nat.reduceEqDiff, false_and, and_false, true_and, and_true, and_self, or_true, true_or, or_false, false_or] at q9
                   rw [show (G1.1 1043 w 0 - 1).toNat = (A1 29 0 - 1).toNat by omega, a78 _ (by omega)] at q9
                   exact q9)
                 exact bind_4 (G1 := G70) (c := (A1 26 (A1 22 0 - 1).toNat)) h0_3 h0_4 (by omega) (by omega) nt (by omega) (by omega) (by omega) (by omega) (by omega) (by omega) (by omega) (by omega) e77 (fun j => by rw [g4 j, show (G60.1 1043 w 0).toNat = (A1 29 0 - 1).toNat by omega, show G60.1 1021 w 0 = A1 20 0 by omega]) (fun j => by rw [g1 j, show (64 + G60.1 1021 w 0).toNat = (64 + A1 20 0).toNat by omega, show v43 = rk (A1 26 (A1 22 0 - 1).toNat) from w43.trans w18.1]) (fun j => by rw [g2 j, show (64 + G60.1 1021 w 0).toNat = (64 + A1 20 0).toNat by omega, h60]) (fun j => by rw [g3 j, show (64 + G60.1 1021 w 0).toNat = (64 + A1 20 0).toNat by omega]))
              | (have h60 : x60 = A1 30 (A1 29 0 - 2).toNat := (by
                   have q9 := hq60.1
                   try rw [hz55.1 2078 (by decide)] at q9
                   try simp only [zuI_1, zuI_2, zuJ_1, zuJ_2, zuJ_3, zuP_1, zuP_2, zuP_3, zuC_1, zuC_2, reduceIte, Nat.reduceEqDiff, false_and, and_false, true_and, and_true, and_self, or_true, true_or, or_false, false_or] at q9
                   rw [show (G55.1 1043 w 0 - 1).toNat = (A1 29 0 - 2).toNat by omega, a78 _ (by omega)] at q9
                   exact q9)
                 exact bind_n (G1 := G70) (c := (A1 26 (A1 22 0 - 1).toNat)) h0_3 h0_4 (by omega) (by omega) nt (by omega) (by omega) (by omega) (by omega) (by omega) (by omega) (by omega) (by omega) e77 (fun j => by rw [g4 j, show (G60.1 1043 w 0).toNat = (A1 29 0 - 2).toNat by omega, show G60.1 1021 w 0 = A1 20 0 by omega]) (fun j => by rw [g1 j, show (64 + G60.1 1021 w 0).toNat = (64 + A1 20 0).toNat by omega, show v43 = rk (A1 26 (A1 22 0 - 1).toNat) from w43.trans w18.1]) (fun j => by rw [g2 j, show (64 + G60.1 1021 w 0).toNat = (64 + A1 20 0).toNat by omega, h60]) (fun j => by rw [g3 j, show (64 + G60.1 1021 w 0).toNat = (64 + A1 20 0).toNat by omega, h55]))
            refine zs_goto (tgt := 0) (pc := 73) C dX9_bind_73 (by decide) ?_
            exact zs_wk (ih0 _ _ (by repeat (first | exact zsm_rf | assumption | refine zsm_C (by decide) ?_ | refine zsm_I (by decide) ?_ | refine zsm_J ?_ | refine zsm_c (by assumption) (by decide) ?_)) hMI hPI hgo.1 hgo.2 (by rw [← h0_5]; exact (rel_u (by omega) (by omega)).symm) (by with_reducible repeat (first | exact LJr_rf | assumption | refine LJr_I (h := 0) (by decide) (Nat.zero_le _) ?_ | refine LJr_I (h := 3) (by decide) (by omega) ?_ | refine LJr_I (h := 4) (by decide) (by omega) ?_ | refine LJr_I (h := 5) (by decide) (by omega) ?_ | refine LJr_I (h := 7) (by decide) (by omega) ?_ | refine LJr_I (h := 20) (by decide) (by omega) ?_ | refine LJr_I (h := 64) (by decide) (by omega) ?_ | refine LJr_c (by assumption) ?_)) (by first | omega | (simp only [zuI_1, zuI_2, zuJ_1, zuJ_2, zuJ_3, zuP_1, zuP_2, zuP_3, zuC_1, zuC_2, reduceIte, Nat.reduceEqDiff, false_and, and_false, true_and, and_true, and_self, or_true, true_or, or_false, false_or]; omega))) (zwk_s rfl (zwk_s rfl (zwk_n (zwk_n (zwk_n zwk_0)))))
          · skip
            have nt : (A1 26 (A1 22 0 - 1).toNat) = 4 := by omega
            refine zs_iconst (pc := 50) C dX9_bind_50 (by decide) ?_
            refine zs_goto (tgt := 58) (pc := 51) C dX9_bind_51 (by decide) ?_
            refine zs_istore_n (pc := 58) C dX9_bind_58 (by decide) ?_
            dsimp only [zset, zclr, znone]
            refine zs_aload_n (pc := 59) C dX9_bind_59 rfl ?_
            refine zVi0 (pc := 60) C dX9_bind_60 v_X9_320 (c_X9_dropHeldY hX (by first | omega | (simp only [zuI_1, zuI_2, zuJ_1, zuJ_2, zuJ_3, zuP_1, zuP_2, zuP_3, zuC_1, zuC_2, reduceIte, Nat.reduceEqDiff, false_and, and_false, true_and, and_true, and_self, or_true, true_or, or_false, false_or]; omega))) (by decide) (by decide) ⟨Nat.zero_le _, Nat.zero_le _⟩ (Nat.le_of_ble_eq_true rfl) (fun x60 G60 l60 u60 hp60 => ?_)
            obtain ⟨hz60, lo60, hq60⟩ := hp60
            try simp only [zuI_1, zuI_2, zuJ_1, zuJ_2, zuJ_3, zuP_1, zuP_2, zuP_3, zuC_1, zuC_2, reduceIte, Nat.reduceEqDiff, false_and, and_false, true_and, and_true, and_self, or_true, true_or, or_false, false_or] at hq60
            have tr60_1042 := zsm_at hz60 1042 w 0 (by decide)
            try simp only [zuI_1, zuI_2, zuJ_1, zuJ_2, zuJ_3, zuP_1, zuP_2, zuP_3, zuC_1, zuC_2, reduceIte, Nat.reduceEqDiff, false_and, and_false, true_and, and_true, and_self, or_true, true_or, or_false, false_or] at tr60_1042
            have tr60_1044 := zsm_at hz60 1044 w 0 (by decide)
            try simp only [zuI_1, zuI_2, zuJ_1, zuJ_2, zuJ_3, zuP_1, zuP_2, zuP_3, zuC_1, zuC_2, reduceIte, Nat.reduceEqDiff, false_and, and_false, true_and, and_true, and_self, or_true, true_or, or_false, false_or] at tr60_1044
            have tr60_1045 := zsm_at hz60 1045 w 0 (by decide)
            try simp only [zuI_1, zuI_2, zuJ_1, zuJ_2, zuJ_3, zuP_1, zuP_2, zuP_3, zuC_1, zuC_2, reduceIte, Nat.reduceEqDiff, false_and, and_false, true_and, and_true, and_self, or_true, true_or, or_false, false_or] at tr60_1045
            have tr60_1046 := zsm_at hz60 1046 w 0 (by decide)
            try simp only [zuI_1, zuI_2, zuJ_1, zuJ_2, zuJ_3, zuP_1, zuP_2, zuP_3, zuC_1, zuC_2, reduceIte, Nat.reduceEqDiff, false_and, and_false, true_and, and_true, and_self, or_true, true_or, or_false, false_or] at tr60_1046
            have tr60_1021 := zsm_at hz60 1021 w 0 (by decide)
            try simp only [zuI_1, zuI_2, zuJ_1, zuJ_2, zuJ_3, zuP_1, zuP_2, zuP_3, zuC_1, zuC_2, reduceIte, Nat.reduceEqDiff, false_and, and_false, true_and, and_true, and_self, or_true, true_or, or_false, false_or] at tr60_1021
            have tr60_1007 := zsm_at hz60 1007 w 0 (by decide)
            try simp only [zuI_1, zuI_2, zuJ_1, zuJ_2, zuJ_3, zuP_1, zuP_2, zuP_3, zuC_1, zuC_2, reduceIte, Nat.reduceEqDiff, false_and, and_false, true_and, and_true, and_self, or_true, true_or, or_false, false_or] at tr60_1007
            have tr60_1010 := zsm_at hz60 1010 w 0 (by decide)
            try simp only [zuI_1, zuI_2, zuJ_1, zuJ_2, zuJ_3, zuP_1, zuP_2, zuP_3, zuC_1, zuC_2, reduceIte, Nat.reduceEqDiff, false_and, and_false, true_and, and_true, and_self, or_true, true_or, or_false, false_or] at tr60_1010
            have tr60_1006 := zsm_at hz60 1006 w 0 (by decide)
            try simp only [zuI_1, zuI_2, zuJ_1, zuJ_2, zuJ_3, zuP_1, zuP_2, zuP_3, zuC_1, zuC_2, reduceIte, Nat.reduceEqDiff, false_and, and_false, true_and, and_true, and_self, or_true, true_or, or_false, false_or] at tr60_1006
            have tr60_1008 := zsm_at hz60 1008 w 0 (by decide)
            try simp only [zuI_1, zuI_2, zuJ_1, zuJ_2, zuJ_3, zuP_1, zuP_2, zuP_3, zuC_1, zuC_2, reduceIte, Nat.reduceEqDiff, false_and, and_false, true_and, and_true, and_self, or_true, true_or, or_false, false_or] at tr60_1008
            have tr60_1009 := zsm_at hz60 1009 w 0 (by decide)
            try simp only [zuI_1, zuI_2, zuJ_1, zuJ_2, zuJ_3, zuP_1, zuP_2, zuP_3, zuC_1, zuC_2, reduceIte, Nat.reduceEqDiff, false_and, and_false, true_and, and_true, and_self, or_true, true_or, or_false, false_or] at tr60_1009
            refine zs_istore (pc := 63) C dX9_bind_63 (by decide) ?_
            dsimp only [zset, zclr, znone]
            refine zs_aload_n (pc := 65) C dX9_bind_65 rfl ?_
            refine zs_iload_n (pc := 66) C dX9_bind_66 rfl ?_
            refine zs_iload (pc := 67) C dX9_bind_67 rfl ?_
            refine zs_iload_n (pc := 69) C dX9_bind_69 rfl ?_
            refine zVv3 (pc := 70) C dX9_bind_70 v_X9_324 (c_X9_grownY hX (by repeat (first | assumption | refine MI_I (by decide) ?_ | refine MI_J ?_ | refine MI_sm (by assumption) (by decide) ?_ | refine MI_sn (by assumption) (by decide) ?_)) (by first | omega | (simp only [zuI_1, zuI_2, zuJ_1, zuJ_2, zuJ_3, zuP_1, zuP_2, zuP_3, zuC_1, zuC_2, reduceIte, Nat.reduceEqDiff, false_and, and_false, true_and, and_true, and_self, or_true, true_or, or_false, false_or]; omega)) (by first | omega | (simp only [zuI_1, zuI_2, zuJ_1, zuJ_2, zuJ_3, zuP_1, zuP_2, zuP_3, zuC_1, zuC_2, reduceIte, Nat.reduceEqDiff, false_and, and_false, true_and, and_true, and_self, or_true, true_or, or_false, false_or]; omega)) (by first | omega | (simp only [zuI_1, zuI_2, zuJ_1, zuJ_2, zuJ_3, zuP_1, zuP_2, zuP_3, zuC_1, zuC_2, reduceIte, Nat.reduceEqDiff, false_and, and_false, true_and, and_true, and_self, or_true, true_or, or_false, false_or]; omega)) ⟨fun q => by omega, fun q => by omega, fun q => by omega⟩ (by first | omega | (simp only [zuI_1, zuI_2, zuJ_1, zuJ_2, zuJ_3, zuP_1, zuP_2, zuP_3, zuC_1, zuC_2, reduceIte, Nat.reduceEqDiff, false_and, and_false, true_and, and_true, and_self, or_true, true_or, or_false, false_or]; omega))) (by decide) (by decide) ⟨Nat.zero_le _, Nat.zero_le _⟩ (Nat.le_of_ble_eq_true rfl) (fun G70 hp70 => ?_)
            obtain ⟨hz70, lo70, hq70⟩ := hp70
            have tr70_1042 := zsm_at hz70 1042 w 0 (by decide)
            try simp only [zuI_1, zuI_2, zuJ_1, zuJ_2, zuJ_3, zuP_1, zuP_2, zuP_3, zuC_1, zuC_2, reduceIte, Nat.reduceEqDiff, false_and, and_false, true_and, and_true, and_self, or_true, true_or, or_false, false_or] at tr70_1042
            have tr70_1044 := zsm_at hz70 1044 w 0 (by decide)
            try simp only [zuI_1, zuI_2, zuJ_1, zuJ_2, zuJ_3, zuP_1, zuP_2, zuP_3, zuC_1, zuC_2, reduceIte, Nat.reduceEqDiff, false_and, and_false, true_and, and_true, and_self, or_true, true_or, or_false, false_or] at tr70_1044
            have tr70_1045 := zsm_at hz70 1045 w 0 (by decide)
            try simp only [zuI_1, zuI_2, zuJ_1, zuJ_2, zuJ_3, zuP_1, zuP_2, zuP_3, zuC_1, zuC_2, reduceIte, Nat.reduceEqDiff, false_and, and_false, true_and, and_true, and_self, or_true, true_or, or_false, false_or] at tr70_1045
            have tr70_1046 := zsm_at hz70 1046 w 0 (by decide)
            try simp only [zuI_1, zuI_2, zuJ_1, zuJ_2, zuJ_3, zuP_1, zuP_2, zuP_3, zuC_1, zuC_2, reduceIte, Nat.reduceEqDiff, false_and, and_false, true_and, and_true, and_self, or_true, true_or, or_false, false_or] at tr70_1046
            have tr70_1007 := zsm_at hz70 1007 w 0 (by decide)
            try simp only [zuI_1, zuI_2, zuJ_1, zuJ_2, zuJ_3, zuP_1, zuP_2, zuP_3, zuC_1, zuC_2, reduceIte, Nat.reduceEqDiff, false_and, and_false, true_and, and_true, and_self, or_true, true_or, or_false, false_or] at tr70_1007
            have tr70_1010 := zsm_at hz70 1010 w 0 (by decide)
            try simp only [zuI_1, zuI_2, zuJ_1, zuJ_2, zuJ_3, zuP_1, zuP_2, zuP_3, zuC_1, zuC_2, reduceIte, Nat.reduceEqDiff, false_and, and_false, true_and, and_true, and_self, or_true, true_or, or_false, false_or] at tr70_1010
            have tr70_1006 := zsm_at hz70 1006 w 0 (by decide)
            try simp only [zuI_1, zuI_2, zuJ_1, zuJ_2, zuJ_3, zuP_1, zuP_2, zuP_3, zuC_1, zuC_2, reduceIte, Nat.reduceEqDiff, false_and, and_false, true_and, and_true, and_self, or_true, true_or, or_false, false_or] at tr70_1006
            have tr70_1008 := zsm_at hz70 1008 w 0 (by decide)
            try simp only [zuI_1, zuI_2, zuJ_1, zuJ_2, zuJ_3, zuP_1, zuP_2, zuP_3, zuC_1, zuC_2, reduceIte, Nat.reduceEqDiff, false_and, and_false, true_and, and_true, and_self, or_true, true_or, or_false, false_or] at tr70_1008
            have tr70_1009 := zsm_at hz70 1009 w 0 (by decide)
            try simp only [zuI_1, zuI_2, zuJ_1, zuJ_2, zuJ_3, zuP_1, zuP_2, zuP_3, zuC_1, zuC_2, reduceIte, Nat.reduceEqDiff, false_and, and_false, true_and, and_true, and_self, or_true, true_or, or_false, false_or] at tr70_1009
            have e77 : G70.1 2077 = G1.1 2077 := by rw [hz70.1 2077 (by decide), hz60.1 2077 (by decide)]; first | rw [hz55.1 2077 (by decide), zuI_ne (show (2077 : Nat) ≠ 1042 by decide)] | rw [zuI_ne (show (2077 : Nat) ≠ 1042 by decide)]
            have e42 : G70.1 1042 w 0 = G1.1 1042 w 0 - 1 := by omega
            have hPI : PI Γ w G70 := by
              unfold PI
              rw [e77, e42]
              exact ⟨by omega, by omega, by omega, fun q => by omega⟩
            have hMI := hq70.1
            have s2074 : G60.1 2074 = G1.1 2074 := by rw [hz60.1 2074 (by decide)]; first | rw [hz55.1 2074 (by decide), zuI_nf (by decide)] | rw [zuI_nf (by decide)]
            have s2075 : G60.1 2075 = G1.1 2075 := by rw [hz60.1 2075 (by decide)]; first | rw [hz55.1 2075 (by decide), zuI_nf (by decide)] | rw [zuI_nf (by decide)]
            have s2076 : G60.1 2076 = G1.1 2076 := by rw [hz60.1 2076 (by decide)]; first | rw [hz55.1 2076 (by decide), zuI_nf (by decide)] | rw [zuI_nf (by decide)]
            have s2078 : G60.1 2078 = G1.1 2078 := by rw [hz60.1 2078 (by decide)]; first | rw [hz55.1 2078 (by decide), zuI_nf (by decide)] | rw [zuI_nf (by decide)]
            have a43 := h0_4.2.1
            have a44 := h0_4.2.2.1
            have a46 := h0_4.2.2.2.1
            have a47 := h0_4.2.2.2.2.1
            have a45 := h0_3.2.1
            have a78 := h0_4.2.2.2.2.2.2
            have g70 := hq70.2.2.2
            rw [s2074, s2075, s2076, s2078] at g70
            obtain ⟨g1, g2, g3, g4⟩ := g70
            have t47 := zsm_at hz70 1047 w 0 (by decide)
            have t47b := zsm_at hz60 1047 w 0 (by decide)
            try have t47c := zsm_at hz55 1047 w 0 (by decide)
            try simp only [zuI_1, zuI_2, zuJ_1, zuJ_2, zuJ_3, zuP_1, zuP_2, zuP_3, zuC_1, zuC_2, reduceIte, Nat.reduceEqDiff, false_and, and_false, true_and, and_true, and_self, or_true, true_or, or_false, false_or] at t47c
            try simp only [zuI_1, zuI_2, zuJ_1, zuJ_2, zuJ_3, zuP_1, zuP_2, zuP_3, zuC_1, zuC_2, reduceIte, Nat.reduceEqDiff, false_and, and_false, true_and, and_true, and_self, or_true, true_or, or_false, false_or] at t47b
            have hgo : gK Γ w (sWrite (A1 26 (A1 22 0 - 1).toNat) 0 (gOp (A1 26 (A1 22 0 - 1).toNat) (up A1 22 0 (A1 22 0 - 1)))) G70 ∧ gE Γ w (sWrite (A1 26 (A1 22 0 - 1).toNat) 0 (gOp (A1 26 (A1 22 0 - 1).toNat) (up A1 22 0 (A1 22 0 - 1)))) G70 := by
              first
              | (have h60 : x60 = A1 30 (A1 29 0 - 1).toNat := (by
                   have q9 := hq60.1
                   try rw [hz55.1 2078 (by decide)] at q9
                   try simp only [zuI_1, zuI_2, zuJ_1, zuJ_2, zuJ_3, zuP_1, zuP_2, zuP_3, zuC_1, zuC_2, reduceIte, Nat.reduceEqDiff, false_and, and_false, true_and, and_true, and_self, or_true, true_or, or_false, false_or] at q9
                   rw [show (G1.1 1043 w 0 - 1).toNat = (A1 29 0 - 1).toNat by omega, a78 _ (by omega)] at q9
                   exact q9)
                 exact bind_4 (G1 := G70) (c := (A1 26 (A1 22 0 - 1).toNat)) h0_3 h0_4 (by omega) (by omega) nt (by omega) (by omega) (by omega) (by omega) (by omega) (by omega) (by omega) (by omega) e77 (fun j => by rw [g4 j, show (G60.1 1043 w 0).toNat = (A1 29 0 - 1).toNat by omega, show G60.1 1021 w 0 = A1 20 0 by omega]) (fun j => by rw [g1 j, show (64 + G60.1 1021 w 0).toNat = (64 + A1 20 0).toNat by omega, show v43 = rk (A1 26 (A1 22 0 - 1).toNat) from w43.trans w18.1]) (fun j => by rw [g2 j, show (64 + G60.1 1021 w 0).toNat = (64 + A1 20 0).toNat by omega, h60]) (fun j => by rw [g3 j, show (64 + G60.1 1021 w 0).toNat = (64 + A1 20 0).toNat by omega]))
              | (have h60 : x60 = A1 30 (A1 29 0 - 2).toNat := (by
                   have q9 := hq60.1
                   try rw [hz55.1 2078 (by decide)] at q9
                   try simp only [zuI_1, zuI_2, zuJ_1, zuJ_2, zuJ_3, zuP_1, zuP_2, zuP_3, zuC_1, zuC_2, reduceIte, Nat.reduceEqDiff, false_and, and_false, true_and, and_true, and_self, or_true, true_or, or_false, false_or] at q9
                   rw [show (G55.1 1043 w 0 - 1).toNat = (A1 29 0 - 2).toNat by omega, a78 _ (by omega)] at q9
                   exact q9)
                 exact bind_n (G1 := G70) (c := (A1 26 (A1 22 0 - 1).toNat)) h0_3 h0_4 (by omega) (by omega) nt (by omega) (by omega) (by omega) (by omega) (by omega) (by omega) (by omega) (by omega) e77 (fun j => by rw [g4 j, show (G60.1 1043 w 0).toNat = (A1 29 0 - 2).toNat by omega, show G60.1 1021 w 0 = A1 20 0 by omega]) (fun j => by rw [g1 j, show (64 + G60.1 1021 w 0).toNat = (64 + A1 20 0).toNat by omega, show v43 = rk (A1 26 (A1 22 0 - 1).toNat) from w43.trans w18.1]) (fun j => by rw [g2 j, show (64 + G60.1 1021 w 0).toNat = (64 + A1 20 0).toNat by omega, h60]) (fun j => by rw [g3 j, show (64 + G60.1 1021 w 0).toNat = (64 + A1 20 0).toNat by omega, h55]))
            refine zs_goto (tgt := 0) (pc := 73) C dX9_bind_73 (by decide) ?_
            exact zs_wk (ih0 _ _ (by repeat (first | exact zsm_rf | assumption | refine zsm_C (by decide) ?_ | refine zsm_I (by decide) ?_ | refine zsm_J ?_ | refine zsm_c (by assumption) (by decide) ?_)) hMI hPI hgo.1 hgo.2 (by rw [← h0_5]; exact (rel_u (by omega) (by omega)).symm) (by with_reducible repeat (first | exact LJr_rf | assumption | refine LJr_I (h := 0) (by decide) (Nat.zero_le _) ?_ | refine LJr_I (h := 3) (by decide) (by omega) ?_ | refine LJr_I (h := 4) (by decide) (by omega) ?_ | refine LJr_I (h := 5) (by decide) (by omega) ?_ | refine LJr_I (h := 7) (by decide) (by omega) ?_ | refine LJr_I (h := 20) (by decide) (by omega) ?_ | refine LJr_I (h := 64) (by decide) (by omega) ?_ | refine LJr_c (by assumption) ?_)) (by first | omega | (simp only [zuI_1, zuI_2, zuJ_1, zuJ_2, zuJ_3, zuP_1, zuP_2, zuP_3, zuC_1, zuC_2, reduceIte, Nat.reduceEqDiff, false_and, and_false, true_and, and_true, and_self, or_true, true_or, or_false, false_or]; omega))) (zwk_s rfl (zwk_s rfl (zwk_n (zwk_n (zwk_n zwk_0)))))
  exact zs_wk (L0 _ _ _ zsm_rf hM hQ hK hE rfl (by with_reducible repeat (first | exact LJr_rf | assumption | refine LJr_I (h := 0) (by decide) (Nat.zero_le _) ?_ | refine LJr_I (h := 3) (by decide) (by omega) ?_ | refine LJr_I (h := 4) (by decide) (by omega) ?_ | refine LJr_I (h := 5) (by decide) (by omega) ?_ | refine LJr_I (h := 7) (by decide) (by omega) ?_ | refine LJr_I (h := 20) (by decide) (by omega) ?_ | refine LJr_I (h := 64) (by decide) (by omega) ?_ | refine LJr_c (by assumption) ?_)) (Nat.lt_succ_self _)) (zwk_s rfl (zwk_s rfl (zwk_n (zwk_n (zwk_n zwk_0)))))
