def c3 (W : Nat → Int) (n : Nat) : Int := zct (fun i => decide (3 ≤ W i)) n
def c0 (W : Nat → Int) (n : Nat) : Int := zct (fun i => decide (W i < 2)) n
theorem c3_pop {W : Nat → Int} {n : Int} (h : 1 ≤ n) : (3 ≤ W (n - 1).toNat → c3 W n.toNat = c3 W (n - 1).toNat + 1) ∧ (W (n - 1).toNat < 3 → c3 W n.toNat = c3 W (n - 1).toNat) := by
  unfold c3
  rw [show n.toNat = (n - 1).toNat + 1 by omega, zct_s]
  constructor
  · intro q
    rw [if_pos (by simpa using q)]
  · intro q
    rw [if_neg (by simp only [decide_eq_true_eq]; omega)]
    omega
theorem c0_pop {W : Nat → Int} {n : Int} (h : 1 ≤ n) : (W (n - 1).toNat < 2 → c0 W n.toNat = c0 W (n - 1).toNat + 1) ∧ (2 ≤ W (n - 1).toNat → c0 W n.toNat = c0 W (n - 1).toNat) := by
  unfold c0
  rw [show n.toNat = (n - 1).toNat + 1 by omega, zct_s]
  constructor
  · intro q
    rw [if_pos (by simpa using q)]
  · intro q
    rw [if_neg (by simp only [decide_eq_true_eq]; omega)]
    omega
theorem MI_grow {Γ : zΓ} {w : Nat} {G : zH} {i : Nat} {k a b : Int} (hM : MI Γ w G) (hk : KOK k a b) : MI Γ w (zuI (zuI (zuI G 2074 (Γ.2.1 w 37) i k) 2075 (Γ.2.1 w 38) i a) 2076 (Γ.2.1 w 39) i b) := by
  refine ⟨fun j hj => ?_, fun j hj => ?_⟩
  · simp only [zuI_1, Nat.reduceEqDiff, false_and, if_false]
    exact hM.1 j hj
  · have h1 := hM.2 j hj
    simp only [zuI_1, Nat.reduceEqDiff, false_and, if_false, true_and]
    by_cases q : j = i
    · simp only [q, if_true]
      exact hk
    · simp only [q, if_false]
      exact h1
theorem c_push {G : zH} {a : Nat} {n k : Int} (h : 0 ≤ n) : (3 ≤ k → c3 ((zuI G 2077 a n.toNat k).1 2077 a) (n + 1).toNat = c3 (G.1 2077 a) n.toNat + 1) ∧ (k < 3 → c3 ((zuI G 2077 a n.toNat k).1 2077 a) (n + 1).toNat = c3 (G.1 2077 a) n.toNat) ∧ (k < 2 → c0 ((zuI G 2077 a n.toNat k).1 2077 a) (n + 1).toNat = c0 (G.1 2077 a) n.toNat + 1) ∧ (2 ≤ k → c0 ((zuI G 2077 a n.toNat k).1 2077 a) (n + 1).toNat = c0 (G.1 2077 a) n.toNat) := by
  have e1 : ∀ i, i < n.toNat → (zuI G 2077 a n.toNat k).1 2077 a i = G.1 2077 a i := fun i hi => by
    rw [zuI_1, if_neg (fun q => by omega)]
  have e2 : (zuI G 2077 a n.toNat k).1 2077 a n.toNat = k := by
    rw [zuI_1, if_pos ⟨rfl, rfl, rfl⟩]
  unfold c3 c0
  rw [show (n + 1).toNat = n.toNat + 1 by omega, zct_s, zct_s, e2, zct_cg (f := fun i => decide (3 ≤ (zuI G 2077 a n.toNat k).1 2077 a i)) (g := fun i => decide (3 ≤ G.1 2077 a i)) n.toNat (fun i hi => by rw [e1 i hi]), zct_cg (f := fun i => decide ((zuI G 2077 a n.toNat k).1 2077 a i < 2)) (g := fun i => decide (G.1 2077 a i < 2)) n.toNat (fun i hi => by rw [e1 i hi])]
  refine ⟨fun q => ?_, fun q => ?_, fun q => ?_, fun q => ?_⟩
  · rw [if_pos (by simpa using q)]
  · rw [if_neg (by simp only [decide_eq_true_eq]; omega)]; omega
  · rw [if_pos (by simpa using q)]
  · rw [if_neg (by simp only [decide_eq_true_eq]; omega)]; omega

set_option maxHeartbeats 4000000 in
set_option maxRecDepth 100000 in
theorem c_X9_dropHeld {l : Launch} {Γ : zΓ} {G : zH} {w : Nat}  (hX : zXs Γ) (hn : 1 ≤ G.1 1043 w 0) : zMet l Γ yX9_dropHeld cX9_dropHeld 1 (some .int) 0 [zr 10 w] G (zpi (fun x G' => zsm [1043] G G' ∧ (0 ≤ x ∧ x ≤ 63 ∧ G'.1 1043 w 0 = G.1 1043 w 0 - 1))) := by
  refine zMet_of RX9 hX (by decide) rfl (Nat.le_of_ble_eq_true rfl) ?_
  intro p e s m args below meth c C hr hlk
  show Z p l e (zrm 0) s m args below meth c Γ 1 0 0 (MQ below (zQc Γ (zpi (fun x G' => zsm [1043] G G' ∧ (0 ≤ x ∧ x ≤ 63 ∧ G'.1 1043 w 0 = G.1 1043 w 0 - 1)))) args s 0 0 (zA Γ)) 0 [some (zr 10 w)] [] G
  refine zs_aload_n (pc := 0) C dX9_dropHeld_0 rfl ?_
  refine zs_dupa (pc := 1) C dX9_dropHeld_1 ?_
  refine zs_geti (r := 1043) (pc := 2) C dX9_dropHeld_2 w_X9_310 f_10_43 rfl (r_1043 0) (fun v2 e2 l2 u2 => ?_)
  refine zs_iconst (pc := 5) C dX9_dropHeld_5 (by decide) ?_
  first | refine zs_isub (pc := 6) C dX9_dropHeld_6 (by omega) ?_ | refine zs_isubF (pc := 6) C dX9_dropHeld_6 (fun z6 hz61 hz62 => ?_)
  refine zs_puti (r := 1043) (pc := 7) C dX9_dropHeld_7 w_X9_310 f_10_43 rfl (r_1043 0) (by omega) ?_
  refine zs_aload_n (pc := 10) C dX9_dropHeld_10 rfl ?_
  refine zs_getf (pc := 11) C dX9_dropHeld_11 w_X9_78 f_10_41 (by decide) ?_
  refine zs_aload_n (pc := 14) C dX9_dropHeld_14 rfl ?_
  refine zs_geti (r := 1043) (pc := 15) C dX9_dropHeld_15 w_X9_310 f_10_43 rfl (r_1043 0) (fun v15 e15 l15 u15 => ?_)
  try simp only [zuI_1, zuI_2, zuJ_1, zuJ_2, zuJ_3, zuP_1, zuP_2, zuP_3, zuC_1, zuC_2, reduceIte, Nat.reduceEqDiff, false_and, and_false, true_and, and_true, and_self, or_true, true_or, or_false, false_or] at e15
  refine zs_iald (r := 2078) (pc := 18) C dX9_dropHeld_18 a_78 (by decide) (by omega) rfl (r_2078 _) (fun v18 e18 l18 u18 => ?_)
  try simp only [zuI_1, zuI_2, zuJ_1, zuJ_2, zuJ_3, zuP_1, zuP_2, zuP_3, zuC_1, zuC_2, reduceIte, Nat.reduceEqDiff, false_and, and_false, true_and, and_true, and_self, or_true, true_or, or_false, false_or] at e18
  exact zs_iret (pc := 19) C hr hlk dX9_dropHeld_19 ⟨by repeat (first | exact zsm_rf | assumption | refine zsm_C (by decide) ?_ | refine zsm_I (by decide) ?_ | refine zsm_J ?_ | refine zsm_c (by assumption) (by decide) ?_), by first | omega | (simp only [zuI_1, zuI_2, zuJ_1, zuJ_2, zuJ_3, zuP_1, zuP_2, zuP_3, zuC_1, zuC_2, reduceIte, Nat.reduceEqDiff, false_and, and_false, true_and, and_true, and_self, or_true, true_or, or_false, false_or]; omega)⟩

set_option maxHeartbeats 4000000 in
set_option maxRecDepth 100000 in
theorem c_X9_isCounted {l : Launch} {Γ : zΓ} {G : zH} {w : Nat}  (hX : zXs Γ)  : zMet l Γ yX9_isCounted cX9_isCounted 1 (some .boolean) 1 [zr 10 w] G (zpi (fun x G' => zsm [1004, 1005, 1045] G G' ∧ ((x = 0 ∨ x = 1) ∧ (x = 1 → G'.1 1045 w 0 = G.1 1045 w 0 + 1)))) := by
  refine zMet_of RX9 hX (by decide) rfl (Nat.le_of_ble_eq_true rfl) ?_
  intro p e s m args below meth c C hr hlk
  show Z p l e (zrm 1) s m args below meth c Γ 1 0 0 (MQ below (zQc Γ (zpi (fun x G' => zsm [1004, 1005, 1045] G G' ∧ ((x = 0 ∨ x = 1) ∧ (x = 1 → G'.1 1045 w 0 = G.1 1045 w 0 + 1))))) args s 0 0 (zA Γ)) 0 [some (zr 10 w)] [] G
  refine zs_aload_n (pc := 0) C dX9_isCounted_0 rfl ?_
  refine zs_geti (r := 1045) (pc := 1) C dX9_isCounted_1 w_X9_255 f_10_45 rfl (r_1045 0) (fun v1 e1 l1 u1 => ?_)
  refine zs_bipush (pc := 4) C dX9_isCounted_4 (by decide) (by decide) ?_
  refine zs_icmp_ne (tgt := 15) (pc := 6) C dX9_isCounted_6 (by decide) (fun h6 => ?_) (fun h6 => ?_)
  · skip
    refine zs_aload_n (pc := 15) C dX9_isCounted_15 rfl ?_
    refine zs_dupa (pc := 16) C dX9_isCounted_16 ?_
    refine zs_geti (r := 1045) (pc := 17) C dX9_isCounted_17 w_X9_255 f_10_45 rfl (r_1045 0) (fun v17 e17 l17 u17 => ?_)
    refine zs_iconst (pc := 20) C dX9_isCounted_20 (by decide) ?_
    first | refine zs_iadd (pc := 21) C dX9_isCounted_21 (by omega) ?_ | refine zs_iaddF (pc := 21) C dX9_isCounted_21 (fun z21 hz211 hz212 => ?_)
    refine zs_puti (r := 1045) (pc := 22) C dX9_isCounted_22 w_X9_255 f_10_45 rfl (r_1045 0) (by omega) ?_
    refine zs_iconst (pc := 25) C dX9_isCounted_25 (by decide) ?_
    exact zs_zret (pc := 26) C hr hlk dX9_isCounted_26 (by omega) ⟨by repeat (first | exact zsm_rf | assumption | refine zsm_C (by decide) ?_ | refine zsm_I (by decide) ?_ | refine zsm_J ?_ | refine zsm_c (by assumption) (by decide) ?_), by first | omega | (simp only [zuI_1, zuI_2, zuJ_1, zuJ_2, zuJ_3, zuP_1, zuP_2, zuP_3, zuC_1, zuC_2, reduceIte, Nat.reduceEqDiff, false_and, and_false, true_and, and_true, and_self, or_true, true_or, or_false, false_or]; omega)⟩
  · skip
    refine zs_aload_n (pc := 9) C dX9_isCounted_9 rfl ?_
    refine zs_iconst (pc := 10) C dX9_isCounted_10 (by decide) ?_
    refine zVi1 (pc := 11) C dX9_isCounted_11 v_X9_220 (c_X9_wrong hX ) (by decide) (by decide) ⟨Nat.zero_le _, Nat.zero_le _⟩ (Nat.le_of_ble_eq_true rfl) (fun x11 G11 l11 u11 hp11 => ?_)
    obtain ⟨hz11, hq11⟩ := hp11
    exact zs_zret (pc := 14) C hr hlk dX9_isCounted_14 (by omega) ⟨by repeat (first | exact zsm_rf | assumption | refine zsm_C (by decide) ?_ | refine zsm_I (by decide) ?_ | refine zsm_J ?_ | refine zsm_c (by assumption) (by decide) ?_), by first | omega | (simp only [zuI_1, zuI_2, zuJ_1, zuJ_2, zuJ_3, zuP_1, zuP_2, zuP_3, zuC_1, zuC_2, reduceIte, Nat.reduceEqDiff, false_and, and_false, true_and, and_true, and_self, or_true, true_or, or_false, false_or]; omega)⟩

set_option maxHeartbeats 4000000 in
set_option maxRecDepth 100000 in
theorem c_X9_nameMet {l : Launch} {Γ : zΓ} {G : zH} {w : Nat}  (hX : zXs Γ)  : zMet l Γ yX9_nameMet cX9_nameMet 1 (some .int) 0 [zr 10 w] G (zpi (fun x G' => G' = G ∧ (-1 ≤ x ∧ (x ≠ -1 → G.1 1008 w 0 = 1 ∧ x = G.1 1009 w 0 - 17)))) := by
  refine zMet_of RX9 hX (by decide) rfl (Nat.le_of_ble_eq_true rfl) ?_
  intro p e s m args below meth c C hr hlk
  show Z p l e (zrm 0) s m args below meth c Γ 1 0 0 (MQ below (zQc Γ (zpi (fun x G' => G' = G ∧ (-1 ≤ x ∧ (x ≠ -1 → G.1 1008 w 0 = 1 ∧ x = G.1 1009 w 0 - 17))))) args s 0 0 (zA Γ)) 0 [some (zr 10 w)] [] G
  refine zs_aload_n (pc := 0) C dX9_nameMet_0 rfl ?_
  refine zs_geti (r := 1008) (pc := 1) C dX9_nameMet_1 w_X9_196 f_10_8 rfl (r_1008 0) (fun v1 e1 l1 u1 => ?_)
  refine zs_iconst (pc := 4) C dX9_nameMet_4 (by decide) ?_
  refine zs_icmp_ne (tgt := 27) (pc := 5) C dX9_nameMet_5 (by decide) (fun h5 => ?_) (fun h5 => ?_)
  · skip
    refine zs_iconst (pc := 27) C dX9_nameMet_27 (by decide) ?_
    exact zs_iret (pc := 28) C hr hlk dX9_nameMet_28 ⟨rfl, by first | omega | (simp only [zuI_1, zuI_2, zuJ_1, zuJ_2, zuJ_3, zuP_1, zuP_2, zuP_3, zuC_1, zuC_2, reduceIte, Nat.reduceEqDiff, false_and, and_false, true_and, and_true, and_self, or_true, true_or, or_false, false_or]; omega)⟩
  · skip
    refine zs_aload_n (pc := 8) C dX9_nameMet_8 rfl ?_
    refine zs_geti (r := 1009) (pc := 9) C dX9_nameMet_9 w_X9_207 f_10_9 rfl (r_1009 0) (fun v9 e9 l9 u9 => ?_)
    refine zs_bipush (pc := 12) C dX9_nameMet_12 (by decide) (by decide) ?_
    refine zs_icmp_lt (tgt := 27) (pc := 14) C dX9_nameMet_14 (by decide) (fun h14 => ?_) (fun h14 => ?_)
    · skip
      refine zs_iconst (pc := 27) C dX9_nameMet_27 (by decide) ?_
      exact zs_iret (pc := 28) C hr hlk dX9_nameMet_28 ⟨rfl, by first | omega | (simp only [zuI_1, zuI_2, zuJ_1, zuJ_2, zuJ_3, zuP_1, zuP_2, zuP_3, zuC_1, zuC_2, reduceIte, Nat.reduceEqDiff, false_and, and_false, true_and, and_true, and_self, or_true, true_or, or_false, false_or]; omega)⟩
    · skip
      refine zs_aload_n (pc := 17) C dX9_nameMet_17 rfl ?_
      refine zs_geti (r := 1009) (pc := 18) C dX9_nameMet_18 w_X9_207 f_10_9 rfl (r_1009 0) (fun v18 e18 l18 u18 => ?_)
      refine zs_bipush (pc := 21) C dX9_nameMet_21 (by decide) (by decide) ?_
      first | refine zs_isub (pc := 23) C dX9_nameMet_23 (by omega) ?_ | refine zs_isubF (pc := 23) C dX9_nameMet_23 (fun z23 hz231 hz232 => ?_)
      refine zs_goto (tgt := 28) (pc := 24) C dX9_nameMet_24 (by decide) ?_
      exact zs_iret (pc := 28) C hr hlk dX9_nameMet_28 ⟨rfl, by first | omega | (simp only [zuI_1, zuI_2, zuJ_1, zuJ_2, zuJ_3, zuP_1, zuP_2, zuP_3, zuC_1, zuC_2, reduceIte, Nat.reduceEqDiff, false_and, and_false, true_and, and_true, and_self, or_true, true_or, or_false, false_or]; omega)⟩

set_option maxHeartbeats 4000000 in
set_option maxRecDepth 100000 in
theorem c_X9_grown {l : Launch} {Γ : zΓ} {G : zH} {w : Nat} {k a b : Int} (hX : zXs Γ) (hM : MI Γ w G)(hk : 0 ≤ k ∧ k ≤ 14) (ha : 0 ≤ a ∧ a ≤ 9999) (hb : -1 ≤ b ∧ b ≤ 63) (hK : KOK k a b) (hn : G.1 1021 w 0 ≤ 63 ∧ G.1 1043 w 0 ≤ 95) : zMet l Γ yX9_grown cX9_grown 4 none 0 [zr 10 w, zi k, zi a, zi b] G (zpv (fun G' => zsm [2074, 2075, 2076, 2078, 1043, 1021] G G' ∧ (MI Γ w G' ∧ G'.1 1021 w 0 = G.1 1021 w 0 + 1 ∧ G'.1 1043 w 0 = G.1 1043 w 0 + 1))) := by
  refine zMet_of RX9 hX (by decide) rfl (Nat.le_of_ble_eq_true rfl) ?_
  intro p e s m args below meth c C hr hlk
  show Z p l e (zrm 0) s m args below meth c Γ 4 0 0 (MQ below (zQc Γ (zpv (fun G' => zsm [2074, 2075, 2076, 2078, 1043, 1021] G G' ∧ (MI Γ w G' ∧ G'.1 1021 w 0 = G.1 1021 w 0 + 1 ∧ G'.1 1043 w 0 = G.1 1043 w 0 + 1)))) args s 0 0 (zA Γ)) 0 [some (zr 10 w), some (zi k), some (zi a), some (zi b)] [] G
  refine zs_loc 1 rfl (fun ha1 hb1 => ?_)
  refine zs_loc 2 rfl (fun ha2 hb2 => ?_)
  refine zs_loc 3 rfl (fun ha3 hb3 => ?_)
  refine zs_aload_n (pc := 0) C dX9_grown_0 rfl ?_
  refine zs_getf (pc := 1) C dX9_grown_1 w_X9_66 f_10_37 (by decide) ?_
  refine zs_bipush (pc := 4) C dX9_grown_4 (by decide) (by decide) ?_
  refine zs_aload_n (pc := 6) C dX9_grown_6 rfl ?_
  refine zs_geti (r := 1021) (pc := 7) C dX9_grown_7 w_X9_252 f_10_21 rfl (r_1021 0) (fun v7 e7 l7 u7 => ?_)
  first | refine zs_iadd (pc := 10) C dX9_grown_10 (by omega) ?_ | refine zs_iaddF (pc := 10) C dX9_grown_10 (fun z10 hz101 hz102 => ?_)
  refine zs_iload_n (pc := 11) C dX9_grown_11 rfl ?_
  refine zs_iast (r := 2074) (pc := 12) C dX9_grown_12 a_74 (by decide) (by omega) rfl (r_2074 _) (by omega) ?_
  refine zs_aload_n (pc := 13) C dX9_grown_13 rfl ?_
  refine zs_getf (pc := 14) C dX9_grown_14 w_X9_69 f_10_38 (by decide) ?_
  refine zs_bipush (pc := 17) C dX9_grown_17 (by decide) (by decide) ?_
  refine zs_aload_n (pc := 19) C dX9_grown_19 rfl ?_
  refine zs_geti (r := 1021) (pc := 20) C dX9_grown_20 w_X9_252 f_10_21 rfl (r_1021 0) (fun v20 e20 l20 u20 => ?_)
  try simp only [zuI_1, zuI_2, zuJ_1, zuJ_2, zuJ_3, zuP_1, zuP_2, zuP_3, zuC_1, zuC_2, reduceIte, Nat.reduceEqDiff, false_and, and_false, true_and, and_true, and_self, or_true, true_or, or_false, false_or] at e20
  first | refine zs_iadd (pc := 23) C dX9_grown_23 (by omega) ?_ | refine zs_iaddF (pc := 23) C dX9_grown_23 (fun z23 hz231 hz232 => ?_)
  refine zs_iload_n (pc := 24) C dX9_grown_24 rfl ?_
  refine zs_iast (r := 2075) (pc := 25) C dX9_grown_25 a_75 (by decide) (by omega) rfl (r_2075 _) (by omega) ?_
  refine zs_aload_n (pc := 26) C dX9_grown_26 rfl ?_
  refine zs_getf (pc := 27) C dX9_grown_27 w_X9_72 f_10_39 (by decide) ?_
  refine zs_bipush (pc := 30) C dX9_grown_30 (by decide) (by decide) ?_
  refine zs_aload_n (pc := 32) C dX9_grown_32 rfl ?_
  refine zs_geti (r := 1021) (pc := 33) C dX9_grown_33 w_X9_252 f_10_21 rfl (r_1021 0) (fun v33 e33 l33 u33 => ?_)
  try simp only [zuI_1, zuI_2, zuJ_1, zuJ_2, zuJ_3, zuP_1, zuP_2, zuP_3, zuC_1, zuC_2, reduceIte, Nat.reduceEqDiff, false_and, and_false, true_and, and_true, and_self, or_true, true_or, or_false, false_or] at e33
  first | refine zs_iadd (pc := 36) C dX9_grown_36 (by omega) ?_ | refine zs_iaddF (pc := 36) C dX9_grown_36 (fun z36 hz361 hz362 => ?_)
  refine zs_iload_n (pc := 37) C dX9_grown_37 rfl ?_
  refine zs_iast (r := 2076) (pc := 38) C dX9_grown_38 a_76 (by decide) (by omega) rfl (r_2076 _) (by omega) ?_
  refine zs_heap (P := fun G3 => zsm [2074, 2075, 2076] G G3 ∧ MI Γ w G3) ⟨(by repeat (first | exact zsm_rf | assumption | refine zsm_C (by decide) ?_ | refine zsm_I (by decide) ?_ | refine zsm_J ?_ | refine zsm_c (by assumption) (by decide) ?_)), by rw [show (64 + v20).toNat = (64 + v7).toNat by omega, show (64 + v33).toNat = (64 + v7).toNat by omega]; exact MI_grow hM hK⟩ (fun G3 hG3 => ?_)
  obtain ⟨hh1, hM3⟩ := hG3
  have t43 := zsm_at hh1 1043 w 0 (by decide)
  have t21 := zsm_at hh1 1021 w 0 (by decide)
  refine zs_aload_n (pc := 39) C dX9_grown_39 rfl ?_
  refine zs_getf (pc := 40) C dX9_grown_40 w_X9_78 f_10_41 (by decide) ?_
  refine zs_aload_n (pc := 43) C dX9_grown_43 rfl ?_
  refine zs_geti (r := 1043) (pc := 44) C dX9_grown_44 w_X9_310 f_10_43 rfl (r_1043 0) (fun v44 e44 l44 u44 => ?_)
  try simp only [zuI_1, zuI_2, zuJ_1, zuJ_2, zuJ_3, zuP_1, zuP_2, zuP_3, zuC_1, zuC_2, reduceIte, Nat.reduceEqDiff, false_and, and_false, true_and, and_true, and_self, or_true, true_or, or_false, false_or] at e44
  refine zs_aload_n (pc := 47) C dX9_grown_47 rfl ?_
  refine zs_geti (r := 1021) (pc := 48) C dX9_grown_48 w_X9_252 f_10_21 rfl (r_1021 0) (fun v48 e48 l48 u48 => ?_)
  try simp only [zuI_1, zuI_2, zuJ_1, zuJ_2, zuJ_3, zuP_1, zuP_2, zuP_3, zuC_1, zuC_2, reduceIte, Nat.reduceEqDiff, false_and, and_false, true_and, and_true, and_self, or_true, true_or, or_false, false_or] at e48
  refine zs_iast (r := 2078) (pc := 51) C dX9_grown_51 a_78 (by decide) (by omega) rfl (r_2078 _) (by omega) ?_
  refine zs_aload_n (pc := 52) C dX9_grown_52 rfl ?_
  refine zs_dupa (pc := 53) C dX9_grown_53 ?_
  refine zs_geti (r := 1043) (pc := 54) C dX9_grown_54 w_X9_310 f_10_43 rfl (r_1043 0) (fun v54 e54 l54 u54 => ?_)
  try simp only [zuI_1, zuI_2, zuJ_1, zuJ_2, zuJ_3, zuP_1, zuP_2, zuP_3, zuC_1, zuC_2, reduceIte, Nat.reduceEqDiff, false_and, and_false, true_and, and_true, and_self, or_true, true_or, or_false, false_or] at e54
  refine zs_iconst (pc := 57) C dX9_grown_57 (by decide) ?_
  first | refine zs_iadd (pc := 58) C dX9_grown_58 (by omega) ?_ | refine zs_iaddF (pc := 58) C dX9_grown_58 (fun z58 hz581 hz582 => ?_)
  refine zs_puti (r := 1043) (pc := 59) C dX9_grown_59 w_X9_310 f_10_43 rfl (r_1043 0) (by omega) ?_
  refine zs_aload_n (pc := 62) C dX9_grown_62 rfl ?_
  refine zs_dupa (pc := 63) C dX9_grown_63 ?_
  refine zs_geti (r := 1021) (pc := 64) C dX9_grown_64 w_X9_252 f_10_21 rfl (r_1021 0) (fun v64 e64 l64 u64 => ?_)
  try simp only [zuI_1, zuI_2, zuJ_1, zuJ_2, zuJ_3, zuP_1, zuP_2, zuP_3, zuC_1, zuC_2, reduceIte, Nat.reduceEqDiff, false_and, and_false, true_and, and_true, and_self, or_true, true_or, or_false, false_or] at e64
  refine zs_iconst (pc := 67) C dX9_grown_67 (by decide) ?_
  first | refine zs_iadd (pc := 68) C dX9_grown_68 (by omega) ?_ | refine zs_iaddF (pc := 68) C dX9_grown_68 (fun z68 hz681 hz682 => ?_)
  refine zs_puti (r := 1021) (pc := 69) C dX9_grown_69 w_X9_252 f_10_21 rfl (r_1021 0) (by omega) ?_
  exact zs_vret (pc := 72) C hr hlk dX9_grown_72 ⟨by repeat (first | exact zsm_rf | assumption | refine zsm_C (by decide) ?_ | refine zsm_I (by decide) ?_ | refine zsm_J ?_ | refine zsm_c (by assumption) (by decide) ?_), ⟨by repeat (first | assumption | refine MI_I (by decide) ?_), by first | omega | (simp only [zuI_1, zuI_2, zuJ_1, zuJ_2, zuJ_3, zuP_1, zuP_2, zuP_3, zuC_1, zuC_2, reduceIte, Nat.reduceEqDiff, false_and, and_false, true_and, and_true, and_self, or_true, true_or, or_false, false_or] <;> omega), by first | omega | (simp only [zuI_1, zuI_2, zuJ_1, zuJ_2, zuJ_3, zuP_1, zuP_2, zuP_3, zuC_1, zuC_2, reduceIte, Nat.reduceEqDiff, false_and, and_false, true_and, and_true, and_self, or_true, true_or, or_false, false_or] <;> omega)⟩⟩

set_option maxHeartbeats 4000000 in
set_option maxRecDepth 100000 in
theorem c_X9_waitsFor {l : Launch} {Γ : zΓ} {G : zH} {w : Nat} {k : Int} (hX : zXs Γ) (hk : 0 ≤ k ∧ k ≤ 14) (hn : G.1 1042 w 0 ≤ 95) : zMet l Γ yX9_waitsFor cX9_waitsFor 2 none 0 [zr 10 w, zi k] G (zpv (fun G' => zsm [2077, 1042] G G' ∧ (G'.1 1042 w 0 = G.1 1042 w 0 + 1 ∧ (3 ≤ k → c3 (G'.1 2077 (Γ.2.1 w 40)) (G.1 1042 w 0 + 1).toNat = c3 (G.1 2077 (Γ.2.1 w 40)) (G.1 1042 w 0).toNat + 1) ∧ (k < 3 → c3 (G'.1 2077 (Γ.2.1 w 40)) (G.1 1042 w 0 + 1).toNat = c3 (G.1 2077 (Γ.2.1 w 40)) (G.1 1042 w 0).toNat) ∧ (k < 2 → c0 (G'.1 2077 (Γ.2.1 w 40)) (G.1 1042 w 0 + 1).toNat = c0 (G.1 2077 (Γ.2.1 w 40)) (G.1 1042 w 0).toNat + 1) ∧ (2 ≤ k → c0 (G'.1 2077 (Γ.2.1 w 40)) (G.1 1042 w 0 + 1).toNat = c0 (G.1 2077 (Γ.2.1 w 40)) (G.1 1042 w 0).toNat)))) := by
  refine zMet_of RX9 hX (by decide) rfl (Nat.le_of_ble_eq_true rfl) ?_
  intro p e s m args below meth c C hr hlk
  show Z p l e (zrm 0) s m args below meth c Γ 2 0 0 (MQ below (zQc Γ (zpv (fun G' => zsm [2077, 1042] G G' ∧ (G'.1 1042 w 0 = G.1 1042 w 0 + 1 ∧ (3 ≤ k → c3 (G'.1 2077 (Γ.2.1 w 40)) (G.1 1042 w 0 + 1).toNat = c3 (G.1 2077 (Γ.2.1 w 40)) (G.1 1042 w 0).toNat + 1) ∧ (k < 3 → c3 (G'.1 2077 (Γ.2.1 w 40)) (G.1 1042 w 0 + 1).toNat = c3 (G.1 2077 (Γ.2.1 w 40)) (G.1 1042 w 0).toNat) ∧ (k < 2 → c0 (G'.1 2077 (Γ.2.1 w 40)) (G.1 1042 w 0 + 1).toNat = c0 (G.1 2077 (Γ.2.1 w 40)) (G.1 1042 w 0).toNat + 1) ∧ (2 ≤ k → c0 (G'.1 2077 (Γ.2.1 w 40)) (G.1 1042 w 0 + 1).toNat = c0 (G.1 2077 (Γ.2.1 w 40)) (G.1 1042 w 0).toNat))))) args s 0 0 (zA Γ)) 0 [some (zr 10 w), some (zi k)] [] G
  refine zs_loc 1 rfl (fun ha1 hb1 => ?_)
  refine zs_aload_n (pc := 0) C dX9_waitsFor_0 rfl ?_
  refine zs_getf (pc := 1) C dX9_waitsFor_1 w_X9_75 f_10_40 (by decide) ?_
  refine zs_aload_n (pc := 4) C dX9_waitsFor_4 rfl ?_
  refine zs_geti (r := 1042) (pc := 5) C dX9_waitsFor_5 w_X9_313 f_10_42 rfl (r_1042 0) (fun v5 e5 l5 u5 => ?_)
  refine zs_iload_n (pc := 8) C dX9_waitsFor_8 rfl ?_
  refine zs_iast (r := 2077) (pc := 9) C dX9_waitsFor_9 a_77 (by decide) (by omega) rfl (r_2077 _) (by omega) ?_
  refine zs_heap (P := fun G3 => zsm [2077] G G3 ∧ (3 ≤ k → c3 (G3.1 2077 (Γ.2.1 w 40)) (G.1 1042 w 0 + 1).toNat = c3 (G.1 2077 (Γ.2.1 w 40)) (G.1 1042 w 0).toNat + 1) ∧ (k < 3 → c3 (G3.1 2077 (Γ.2.1 w 40)) (G.1 1042 w 0 + 1).toNat = c3 (G.1 2077 (Γ.2.1 w 40)) (G.1 1042 w 0).toNat) ∧ (k < 2 → c0 (G3.1 2077 (Γ.2.1 w 40)) (G.1 1042 w 0 + 1).toNat = c0 (G.1 2077 (Γ.2.1 w 40)) (G.1 1042 w 0).toNat + 1) ∧ (2 ≤ k → c0 (G3.1 2077 (Γ.2.1 w 40)) (G.1 1042 w 0 + 1).toNat = c0 (G.1 2077 (Γ.2.1 w 40)) (G.1 1042 w 0).toNat)) ⟨(by repeat (first | exact zsm_rf | assumption | refine zsm_C (by decide) ?_ | refine zsm_I (by decide) ?_ | refine zsm_J ?_ | refine zsm_c (by assumption) (by decide) ?_)), by rw [← e5]; exact c_push (by omega)⟩ (fun G3 hG3 => ?_)
  obtain ⟨hh1, hh2⟩ := hG3
  have t42 := zsm_at hh1 1042 w 0 (by decide)
  refine zs_aload_n (pc := 10) C dX9_waitsFor_10 rfl ?_
  refine zs_dupa (pc := 11) C dX9_waitsFor_11 ?_
  refine zs_geti (r := 1042) (pc := 12) C dX9_waitsFor_12 w_X9_313 f_10_42 rfl (r_1042 0) (fun v12 e12 l12 u12 => ?_)
  try simp only [zuI_1, zuI_2, zuJ_1, zuJ_2, zuJ_3, zuP_1, zuP_2, zuP_3, zuC_1, zuC_2, reduceIte, Nat.reduceEqDiff, false_and, and_false, true_and, and_true, and_self, or_true, true_or, or_false, false_or] at e12
  refine zs_iconst (pc := 15) C dX9_waitsFor_15 (by decide) ?_
  first | refine zs_iadd (pc := 16) C dX9_waitsFor_16 (by omega) ?_ | refine zs_iaddF (pc := 16) C dX9_waitsFor_16 (fun z16 hz161 hz162 => ?_)
  refine zs_puti (r := 1042) (pc := 17) C dX9_waitsFor_17 w_X9_313 f_10_42 rfl (r_1042 0) (by omega) ?_
  exact zs_vret (pc := 20) C hr hlk dX9_waitsFor_20 ⟨by repeat (first | exact zsm_rf | assumption | refine zsm_C (by decide) ?_ | refine zsm_I (by decide) ?_ | refine zsm_J ?_ | refine zsm_c (by assumption) (by decide) ?_), ⟨by first | omega | (simp only [zuI_1, zuI_2, zuJ_1, zuJ_2, zuJ_3, zuP_1, zuP_2, zuP_3, zuC_1, zuC_2, reduceIte, Nat.reduceEqDiff, false_and, and_false, true_and, and_true, and_self, or_true, true_or, or_false, false_or] <;> omega), by rw [zuI_ne (show (2077 : Nat) ≠ 1042 by decide)]; exact hh2⟩⟩
