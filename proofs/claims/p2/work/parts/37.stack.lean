def c3 (W : Nat → Int) (n : Nat) : Int := zct (fun i => decide (3 ≤ W i)) n
def c0 (W : Nat → Int) (n : Nat) : Int := zct (fun i => decide (W i < 2)) n
theorem c3_pop {W : Nat → Int} {n : Int} (h : 1 ≤ n) : (3 ≤ W (n - 1).toNat → c3 W n.toNat = c3 W (n - 1).toNat + 1) ∧ (W (n - 1).toNat < 3 → c3 W n.toNat = c3 W (n - 1).toNat) := by
  unfold c3
  rw [show n.toNat = (n - 1).toNat + 1 by omega, zct_s]
  constructor
  · intro q
    rw [if_pos (by simpa using q)]
  · intro q
    rw [if_neg (by simp only [decide_eq_true_eq]; omega)]
    omega
theorem c0_pop {W : Nat → Int} {n : Int} (h : 1 ≤ n) : (W (n - 1).toNat < 2 → c0 W n.toNat = c0 W (n - 1).toNat + 1) ∧ (2 ≤ W (n - 1).toNat → c0 W n.toNat = c0 W (n - 1).toNat) := by
  unfold c0
  rw [show n.toNat = (n - 1).toNat + 1 by omega, zct_s]
  constructor
  · intro q
    rw [if_pos (by simpa using q)]
  · intro q
    rw [if_neg (by simp only [decide_eq_true_eq]; omega)]
    omega
theorem MI_grow {Γ : zΓ} {w : Nat} {G : zH} {i : Nat} {k a b : Int} (hM : MI Γ w G) (hk : KOK k a b) : MI Γ w (zuI (zuI (zuI G 2074 (Γ.2.1 w 37) i k) 2075 (Γ.2.1 w 38) i a) 2076 (Γ.2.1 w 39) i b) := by
  refine ⟨fun j hj => ?_, fun j hj => ?_⟩
  · simp only [zuI_1, Nat.reduceEqDiff, false_and, if_false]
    exact hM.1 j hj
  · have h1 := hM.2 j hj
    simp only [zuI_1, Nat.reduceEqDiff, false_and, if_false, true_and]
    by_cases q : j = i
    · simp only [q, if_true]
      exact hk
    · simp only [q, if_false]
      exact h1

set_option maxHeartbeats 4000000 in
set_option maxRecDepth 100000 in
theorem c_X9_dropHeld {l : Launch} {Γ : zΓ} {G : zH} {w : Nat}  (hX : zXs Γ) (hn : 1 ≤ G.1 1043 w 0) : zMet l Γ yX9_dropHeld cX9_dropHeld 1 (some .int) 0 [zr 10 w] G (zpi (fun x G' => zsm [1043] G G' ∧ (0 ≤ x ∧ x ≤ 63 ∧ G'.1 1043 w 0 = G.1 1043 w 0 - 1))) := by
  refine zMet_of RX9 hX (by decide) rfl (Nat.le_of_ble_eq_true rfl) ?_
  intro p e s m args below meth c C hr hlk
  show Z p l e (zrm 0) s m args below meth c Γ 1 0 0 (MQ below (zQc Γ (zpi (fun x G' => zsm [1043] G G' ∧ (0 ≤ x ∧ x ≤ 63 ∧ G'.1 1043 w 0 = G.1 1043 w 0 - 1)))) args s 0 0 (zA Γ)) 0 [some (zr 10 w)] [] G
  refine zs_aload_n (pc := 0) C dX9_dropHeld_0 rfl ?_
  refine zs_dupa (pc := 1) C dX9_dropHeld_1 ?_
  refine zs_geti (r := 1043) (pc := 2) C dX9_dropHeld_2 w_X9_310 f_10_43 rfl (r_1043 0) (fun v2 e2 l2 u2 => ?_)
  refine zs_iconst (pc := 5) C dX9_dropHeld_5 (by decide) ?_
  first | refine zs_isub (pc := 6) C dX9_dropHeld_6 (by omega) ?_ | refine zs_isubF (pc := 6) C dX9_dropHeld_6 (fun z6 hz61 hz62 => ?_)
  refine zs_puti (r := 1043) (pc := 7) C dX9_dropHeld_7 w_X9_310 f_10_43 rfl (r_1043 0) (by omega) ?_
  refine zs_aload_n (pc := 10) C dX9_dropHeld_10 rfl ?_
  refine zs_getf (pc := 11) C dX9_dropHeld_11 w_X9_78 f_10_41 (by decide) ?_
  refine zs_aload_n (pc := 14) C dX9_dropHeld_14 rfl ?_
  refine zs_geti (r := 1043) (pc := 15) C dX9_dropHeld_15 w_X9_310 f_10_43 rfl (r_1043 0) (fun v15 e15 l15 u15 => ?_)
  try simp only [zuI_1, zuI_2, zuJ_1, zuJ_2, zuJ_3, zuP_1, zuP_2, zuP_3, zuC_1, zuC_2, reduceIte, Nat.reduceEqDiff, false_and, and_false, true_and, and_true, and_self, or_true, true_or, or_false, false_or] at e15
  refine zs_iald (r := 2078) (pc := 18) C dX9_dropHeld_18 a_78 (by decide) (by omega) rfl (r_2078 _) (fun v18 e18 l18 u18 => ?_)
  try simp only [zuI_1, zuI_2, zuJ_1, zuJ_2, zuJ_3, zuP_1, zuP_2, zuP_3, zuC_1, zuC_2, reduceIte, Nat.reduceEqDiff, false_and, and_false, true_and, and_true, and_self, or_true, true_or, or_false, false_or] at e18
  exact zs_iret (pc := 19) C hr hlk dX9_dropHeld_19 ⟨by repeat (first | exact zsm_rf | assumption | refine zsm_C (by decide) ?_ | refine zsm_I (by decide) ?_ | refine zsm_J ?_ | refine zsm_c (by assumption) (by decide) ?_), by first | omega | (simp only [zuI_1, zuI_2, zuJ_1, zuJ_2, zuJ_3, zuP_1, zuP_2, zuP_3, zuC_1, zuC_2, reduceIte, Nat.reduceEqDiff, false_and, and_false, true_and, and_true, and_self, or_true, true_or, or_false, false_or]; omega)⟩

set_option maxHeartbeats 4000000 in
set_option maxRecDepth 100000 in
theorem c_X9_isCounted {l : Launch} {Γ : zΓ} {G : zH} {w : Nat}  (hX : zXs Γ)  : zMet l Γ yX9_isCounted cX9_isCounted 1 (some .boolean) 1 [zr 10 w] G (zpi (fun x G' => zsm [1004, 1005, 1045] G G' ∧ ((x = 0 ∨ x = 1) ∧ (x = 1 → G'.1 1045 w 0 = G.1 1045 w 0 + 1)))) := by
  refine zMet_of RX9 hX (by decide) rfl (Nat.le_of_ble_eq_true rfl) ?_
  intro p e s m args below meth c C hr hlk
  show Z p l e (zrm 1) s m args below meth c Γ 1 0 0 (MQ below (zQc Γ (zpi (fun x G' => zsm [1004, 1005, 1045] G G' ∧ ((x = 0 ∨ x = 1) ∧ (x = 1 → G'.1 1045 w 0 = G.1 1045 w 0 + 1))))) args s 0 0 (zA Γ)) 0 [some (zr 10 w)] [] G
  refine zs_aload_n (pc := 0) C dX9_isCounted_0 rfl ?_
  refine zs_geti (r := 1045) (pc := 1) C dX9_isCounted_1 w_X9_255 f_10_45 rfl (r_1045 0) (fun v1 e1 l1 u1 => ?_)
  refine zs_bipush (pc := 4) C dX9_isCounted_4 (by decide) (by decide) ?_
  refine zs_icmp_ne (tgt := 15) (pc := 6) C dX9_isCounted_6 (by decide) (fun h6 => ?_) (fun h6 => ?_)
  · skip
    refine zs_aload_n (pc := 15) C dX9_isCounted_15 rfl ?_
    refine zs_dupa (pc := 16) C dX9_isCounted_16 ?_
    refine zs_geti (r := 1045) (pc := 17) C dX9_isCounted_17 w_X9_255 f_10_45 rfl (r_1045 0) (fun v17 e17 l17 u17 => ?_)
    refine zs_iconst (pc := 20) C dX9_isCounted_20 (by decide) ?_
    first | refine zs_iadd (pc := 21) C dX9_isCounted_21 (by omega) ?_ | refine zs_iaddF (pc := 21) C dX9_isCounted_21 (fun z21 hz211 hz212 => ?_)
    refine zs_puti (r := 1045) (pc := 22) C dX9_isCounted_22 w_X9_255 f_10_45 rfl (r_1045 0) (by omega) ?_
    refine zs_iconst (pc := 25) C dX9_isCounted_25 (by decide) ?_
    exact zs_zret (pc := 26) C hr hlk dX9_isCounted_26 (by omega) ⟨by repeat (first | exact zsm_rf | assumption | refine zsm_C (by decide) ?_ | refine zsm_I (by decide) ?_ | refine zsm_J ?_ | refine zsm_c (by assumption) (by decide) ?_), by first | omega | (simp only [zuI_1, zuI_2, zuJ_1, zuJ_2, zuJ_3, zuP_1, zuP_2, zuP_3, zuC_1, zuC_2, reduceIte, Nat.reduceEqDiff, false_and, and_false, true_and, and_true, and_self, or_true, true_or, or_false, false_or]; omega)⟩
  · skip
    refine zs_aload_n (pc := 9) C dX9_isCounted_9 rfl ?_
    refine zs_iconst (pc := 10) C dX9_isCounted_10 (by decide) ?_
    refine zVi1 (pc := 11) C dX9_isCounted_11 v_X9_220 (c_X9_wrong hX ) (by decide) (by decide) ⟨Nat.zero_le _, Nat.zero_le _⟩ (Nat.le_of_ble_eq_true rfl) (fun x11 G11 l11 u11 hp11 => ?_)
    obtain ⟨hz11, hq11⟩ := hp11
    exact zs_zret (pc := 14) C hr hlk dX9_isCounted_14 (by omega) ⟨by repeat (first | exact zsm_rf | assumption | refine zsm_C (by decide) ?_ | refine zsm_I (by decide) ?_ | refine zsm_J ?_ | refine zsm_c (by assumption) (by decide) ?_), by first | omega | (simp only [zuI_1, zuI_2, zuJ_1, zuJ_2, zuJ_3, zuP_1, zuP_2, zuP_3, zuC_1, zuC_2, reduceIte, Nat.reduceEqDiff, false_and, and_false, true_and, and_true, and_self, or_true, true_or, or_false, false_or]; omega)⟩

set_option maxHeartbeats 4000000 in
set_option maxRecDepth 100000 in
theorem c_X9_nameMet {l : Launch} {Γ : zΓ} {G : zH} {w : Nat}  (hX : zXs Γ)  : zMet l Γ yX9_nameMet cX9_nameMet 1 (some .int) 0 [zr 10 w] G (zpi (fun x G' => G' = G ∧ (-1 ≤ x ∧ (x ≠ -1 → G.1 1008 w 0 = 1 ∧ x = G.1 1009 w 0 - 17)))) := by
  refine zMet_of RX9 hX (by decide) rfl (Nat.le_of_ble_eq_true rfl) ?_
  intro p e s m args below meth c C hr hlk
  show Z p l e (zrm 0) s m args below meth c Γ 1 0 0 (MQ below (zQc Γ (zpi (fun x G' => G' = G ∧ (-1 ≤ x ∧ (x ≠ -1 → G.1 1008 w 0 = 1 ∧ x = G.1 1009 w 0 - 17))))) args s 0 0 (zA Γ)) 0 [some (zr 10 w)] [] G
  refine zs_aload_n (pc := 0) C dX9_nameMet_0 rfl ?_
  refine zs_geti (r := 1008) (pc := 1) C dX9_nameMet_1 w_X9_196 f_10_8 rfl (r_1008 0) (fun v1 e1 l1 u1 => ?_)
  refine zs_iconst (pc := 4) C dX9_nameMet_4 (by decide) ?_
  refine zs_icmp_ne (tgt := 27) (pc := 5) C dX9_nameMet_5 (by decide) (fun h5 => ?_) (fun h5 => ?_)
  · skip
    refine zs_iconst (pc := 27) C dX9_nameMet_27 (by decide) ?_
    exact zs_iret (pc := 28) C hr hlk dX9_nameMet_28 ⟨rfl, by first | omega | (simp only [zuI_1, zuI_2, zuJ_1, zuJ_2, zuJ_3, zuP_1, zuP_2, zuP_3, zuC_1, zuC_2, reduceIte, Nat.reduceEqDiff, false_and, and_false, true_and, and_true, and_self, or_true, true_or, or_false, false_or]; omega)⟩
  · skip
    refine zs_aload_n (pc := 8) C dX9_nameMet_8 rfl ?_
    refine zs_geti (r := 1009) (pc := 9) C dX9_nameMet_9 w_X9_207 f_10_9 rfl (r_1009 0) (fun v9 e9 l9 u9 => ?_)
    refine zs_bipush (pc := 12) C dX9_nameMet_12 (by decide) (by decide) ?_
    refine zs_icmp_lt (tgt := 27) (pc := 14) C dX9_nameMet_14 (by decide) (fun h14 => ?_) (fun h14 => ?_)
    · skip
      refine zs_iconst (pc := 27) C dX9_nameMet_27 (by decide) ?_
      exact zs_iret (pc := 28) C hr hlk dX9_nameMet_28 ⟨rfl, by first | omega | (simp only [zuI_1, zuI_2, zuJ_1, zuJ_2, zuJ_3, zuP_1, zuP_2, zuP_3, zuC_1, zuC_2, reduceIte, Nat.reduceEqDiff, false_and, and_false, true_and, and_true, and_self, or_true, true_or, or_false, false_or]; omega)⟩
    · skip
      refine zs_aload_n (pc := 17) C dX9_nameMet_17 rfl ?_
      refine zs_geti (r := 1009) (pc := 18) C dX9_nameMet_18 w_X9_207 f_10_9 rfl (r_1009 0) (fun v18 e18 l18 u18 => ?_)
      refine zs_bipush (pc := 21) C dX9_nameMet_21 (by decide) (by decide) ?_
      first | refine zs_isub (pc := 23) C dX9_nameMet_23 (by omega) ?_ | refine zs_isubF (pc := 23) C dX9_nameMet_23 (fun z23 hz231 hz232 => ?_)
      refine zs_goto (tgt := 28) (pc := 24) C dX9_nameMet_24 (by decide) ?_
      exact zs_iret (pc := 28) C hr hlk dX9_nameMet_28 ⟨rfl, by first | omega | (simp only [zuI_1, zuI_2, zuJ_1, zuJ_2, zuJ_3, zuP_1, zuP_2, zuP_3, zuC_1, zuC_2, reduceIte, Nat.reduceEqDiff, false_and, and_false, true_and, and_true, and_self, or_true, true_or, or_false, false_or]; omega)⟩
