set_option maxHeartbeats 4000000 in
set_option maxRecDepth 100000 in
theorem c_X8_putFourFZ {l : Launch} {Γ : zΓ} {G : zH} {w : Nat} {a : Int} (hX : zXs Γ) (hk : G.1 901 w 0 + 4 ≤ 700) : zMet l Γ yX8_putFour cX8_putFour 3 none 0 [zr 9 w, zi a] G (zpv (fun G' => zsm [901, 2055] G G' ∧ (G'.1 901 w 0 = G.1 901 w 0 + 4 ∧ ∀ i : Nat, G'.1 2055 (Γ.2.1 w 0) i = if G.1 901 w 0 ≤ (i : Int) ∧ (i : Int) < G.1 901 w 0 + 4 then byt a (24 - 8 * ((i : Int) - G.1 901 w 0)) else G.1 2055 (Γ.2.1 w 0) i))) := by
  refine zMet_of RX8 hX (by decide) rfl (Nat.le_of_ble_eq_true rfl) ?_
  intro p e s m args below meth c C hr hlk
  show Z p l e (zrm 0) s m args below meth c Γ 3 0 0 (MQ below (zQc Γ (zpv (fun G' => zsm [901, 2055] G G' ∧ (G'.1 901 w 0 = G.1 901 w 0 + 4 ∧ ∀ i : Nat, G'.1 2055 (Γ.2.1 w 0) i = if G.1 901 w 0 ≤ (i : Int) ∧ (i : Int) < G.1 901 w 0 + 4 then byt a (24 - 8 * ((i : Int) - G.1 901 w 0)) else G.1 2055 (Γ.2.1 w 0) i)))) args s 0 0 (zA Γ)) 0 [some (zr 9 w), some (zi a), none] [] G
  refine zs_loc 1 rfl (fun ha1 hb1 => ?_)
  refine zs_bipush (pc := 0) C dX8_putFour_0 (by decide) (by decide) ?_
  refine zs_istore_n (pc := 2) C dX8_putFour_2 (by decide) ?_
  dsimp only [zset, zclr, znone]
  have L3 : ∀ (nn : Nat) (x2 : Int) (G1 : zH), (((x2 = 24 ∧ G1.1 901 w 0 = G.1 901 w 0) ∨ (x2 = 16 ∧ G1.1 901 w 0 = G.1 901 w 0 + 1) ∨ (x2 = 8 ∧ G1.1 901 w 0 = G.1 901 w 0 + 2) ∨ (x2 = 0 ∧ G1.1 901 w 0 = G.1 901 w 0 + 3) ∨ (x2 = -8 ∧ G1.1 901 w 0 = G.1 901 w 0 + 4))) → (zsm [901, 2055] G G1) → (∀ i : Nat, G1.1 2055 (Γ.2.1 w 0) i = if G.1 901 w 0 ≤ (i : Int) ∧ (i : Int) < G1.1 901 w 0 then byt a (24 - 8 * ((i : Int) - G.1 901 w 0)) else G.1 2055 (Γ.2.1 w 0) i) → (x2 + 8).toNat < nn → Z p l e (zrm 0) s m args below meth c Γ 3 0 0 (MQ below (zQc Γ (zpv (fun G' => zsm [901, 2055] G G' ∧ (G'.1 901 w 0 = G.1 901 w 0 + 4 ∧ ∀ i : Nat, G'.1 2055 (Γ.2.1 w 0) i = if G.1 901 w 0 ≤ (i : Int) ∧ (i : Int) < G.1 901 w 0 + 4 then byt a (24 - 8 * ((i : Int) - G.1 901 w 0)) else G.1 2055 (Γ.2.1 w 0) i)))) args s 0 0 (zA Γ)) 3 [some (zr 9 w), some (zi a), some (zi x2)] [] G1 := by
    intro nn
    induction nn with
    | zero => intro x2 G1 h3_0 h3_1 h3_2 hm; exact absurd hm (Nat.not_lt_zero _)
    | succ nn ih3 =>
      intro x2 G1 h3_0 h3_1 h3_2 hm3
      refine zs_iload_n (pc := 3) C dX8_putFour_3 rfl ?_
      refine zs_if_lt (tgt := 49) (pc := 4) C dX8_putFour_4 (by decide) (fun h4 => ?_) (fun h4 => ?_)
      · skip
        exact zs_vret (pc := 49) C hr hlk dX8_putFour_49 ⟨by repeat (first | exact zsm_rf | assumption | refine zsm_C (by decide) ?_ | refine zsm_I (by decide) ?_ | refine zsm_J ?_ | refine zsm_c (by assumption) (by decide) ?_), (by first | exact ⟨by omega, fun i => by have h9 := h3_2 i; rw [show G1.1 901 w 0 = G.1 901 w 0 + 4 by omega] at h9; exact h9⟩ | (exfalso; omega))⟩
      · skip
        refine zs_aload_n (pc := 7) C dX8_putFour_7 rfl ?_
        refine zs_geti (r := 901) (pc := 8) C dX8_putFour_8 w_X8_67 f_9_1 rfl (r_901 0) (fun v8 e8 l8 u8 => ?_)
        refine zs_sipush (pc := 11) C dX8_putFour_11 (by decide) (by decide) ?_
        refine zs_icmp_ge (tgt := 49) (pc := 14) C dX8_putFour_14 (by decide) (fun h14 => ?_) (fun h14 => ?_)
        · skip
          exact zs_vret (pc := 49) C hr hlk dX8_putFour_49 ⟨by repeat (first | exact zsm_rf | assumption | refine zsm_C (by decide) ?_ | refine zsm_I (by decide) ?_ | refine zsm_J ?_ | refine zsm_c (by assumption) (by decide) ?_), (by first | exact ⟨by omega, fun i => by have h9 := h3_2 i; rw [show G1.1 901 w 0 = G.1 901 w 0 + 4 by omega] at h9; exact h9⟩ | (exfalso; omega))⟩
        · skip
          refine zs_aload_n (pc := 17) C dX8_putFour_17 rfl ?_
          refine zs_getf (pc := 18) C dX8_putFour_18 w_X8_11 f_9_0 (by decide) ?_
          refine zs_aload_n (pc := 21) C dX8_putFour_21 rfl ?_
          refine zs_geti (r := 901) (pc := 22) C dX8_putFour_22 w_X8_67 f_9_1 rfl (r_901 0) (fun v22 e22 l22 u22 => ?_)
          refine zs_iload_n (pc := 25) C dX8_putFour_25 rfl ?_
          refine zs_iload_n (pc := 26) C dX8_putFour_26 rfl ?_
          refine zs_iushrX (pc := 27) C dX8_putFour_27 (fun z27 ez27 hz271 hz272 => ?_)
          refine zs_sipush (pc := 28) C dX8_putFour_28 (by decide) (by decide) ?_
          refine zs_iandX (pc := 31) C dX8_putFour_31 (fun z31 ez31 hz311 hz312 => ?_)
          have hby : 0 ≤ z31 ∧ z31 ≤ 255 := by rw [ez31, ez27, byt_u (by omega)]; exact byt_in _ _
          refine zs_iast (r := 2055) (pc := 32) C dX8_putFour_32 a_55 (by decide) (by omega) rfl (r_2055 _) (by omega) ?_
          refine zs_aload_n (pc := 33) C dX8_putFour_33 rfl ?_
          refine zs_dupa (pc := 34) C dX8_putFour_34 ?_
          refine zs_geti (r := 901) (pc := 35) C dX8_putFour_35 w_X8_67 f_9_1 rfl (r_901 0) (fun v35 e35 l35 u35 => ?_)
          try simp only [zuI_1, zuI_2, zuJ_1, zuJ_2, zuJ_3, zuP_1, zuP_2, zuP_3, zuC_1, zuC_2, reduceIte, Nat.reduceEqDiff, false_and, and_false, true_and, and_true, and_self, or_true, true_or, or_false, false_or] at e35
          refine zs_iconst (pc := 38) C dX8_putFour_38 (by decide) ?_
          first | refine zs_iadd (pc := 39) C dX8_putFour_39 (by omega) ?_ | refine zs_iaddF (pc := 39) C dX8_putFour_39 (fun z39 hz391 hz392 => ?_)
          refine zs_puti (r := 901) (pc := 40) C dX8_putFour_40 w_X8_67 f_9_1 rfl (r_901 0) (by omega) ?_
          first | refine zs_iinc (pc := 43) C dX8_putFour_43 rfl (by decide) (by omega) ?_ | refine zs_iincF (pc := 43) C dX8_putFour_43 rfl (by decide) (fun z43 hz431 hz432 => ?_)
          dsimp only [zset, zclr, znone]
          refine zs_goto (tgt := 3) (pc := 46) C dX8_putFour_46 (by decide) ?_
          exact zs_wk (ih3 _ _ (by first | omega | (simp only [zuI_1, zuI_2, zuJ_1, zuJ_2, zuJ_3, zuP_1, zuP_2, zuP_3, zuC_1, zuC_2, reduceIte, Nat.reduceEqDiff, false_and, and_false, true_and, and_true, and_self, or_true, true_or, or_false, false_or]; omega)) (by repeat (first | exact zsm_rf | assumption | refine zsm_C (by decide) ?_ | refine zsm_I (by decide) ?_ | refine zsm_J ?_ | refine zsm_c (by assumption) (by decide) ?_)) (by simp only [zuI_1, zuI_2, zuJ_1, zuJ_2, zuJ_3, zuP_1, zuP_2, zuP_3, zuC_1, zuC_2, reduceIte, Nat.reduceEqDiff, false_and, and_false, true_and, and_true, and_self, or_true, true_or, or_false, false_or, e35]; exact fill_step h3_2 (by omega) (by omega) (by rw [ez31, ez27, byt_u (by omega)]; congr 1; omega)) (by first | omega | (simp only [zuI_1, zuI_2, zuJ_1, zuJ_2, zuJ_3, zuP_1, zuP_2, zuP_3, zuC_1, zuC_2, reduceIte, Nat.reduceEqDiff, false_and, and_false, true_and, and_true, and_self, or_true, true_or, or_false, false_or]; omega))) (zwk_s rfl (zwk_s rfl (zwk_s rfl zwk_0)))
  exact zs_wk (L3 _ _ _ (by first | omega | (simp only [zuI_1, zuI_2, zuJ_1, zuJ_2, zuJ_3, zuP_1, zuP_2, zuP_3, zuC_1, zuC_2, reduceIte, Nat.reduceEqDiff, false_and, and_false, true_and, and_true, and_self, or_true, true_or, or_false, false_or]; omega)) (by repeat (first | exact zsm_rf | assumption | refine zsm_C (by decide) ?_ | refine zsm_I (by decide) ?_ | refine zsm_J ?_ | refine zsm_c (by assumption) (by decide) ?_)) (fun i => by rw [if_neg (by omega)]) (Nat.lt_succ_self _)) (zwk_s rfl (zwk_s rfl (zwk_s rfl zwk_0)))

set_option maxHeartbeats 4000000 in
set_option maxRecDepth 100000 in
theorem c_X8_feedFZ {l : Launch} {Γ : zΓ} {G : zH} {w : Nat} {a1 a2 a3 a4 a5 : Int} (hX : zXs Γ)  : zMet l Γ yX8_feed cX8_feed 6 (some .int) 1 [zr 9 w, zi a1, zi a2, zi a3, zi a4, zi a5] G (zpi (fun x G' => zsm [901, 2055] G G' ∧ ((G.1 901 w 0 + 20 > 700 → x = -1 ∧ G'.1 901 w 0 = G.1 901 w 0 ∧ ∀ i : Nat, G'.1 2055 (Γ.2.1 w 0) i = G.1 2055 (Γ.2.1 w 0) i) ∧ (G.1 901 w 0 + 20 ≤ 700 → x = G.1 901 w 0 + 20 ∧ G'.1 901 w 0 = G.1 901 w 0 + 20 ∧ ∀ i : Nat, G'.1 2055 (Γ.2.1 w 0) i = if G.1 901 w 0 ≤ (i : Int) ∧ (i : Int) < G.1 901 w 0 + 20 then ff a1 a2 a3 a4 a5 ((i : Int) - G.1 901 w 0) else G.1 2055 (Γ.2.1 w 0) i)))) := by
  refine zMet_of RX8 hX (by decide) rfl (Nat.le_of_ble_eq_true rfl) ?_
  intro p e s m args below meth c C hr hlk
  show Z p l e (zrm 1) s m args below meth c Γ 6 0 0 (MQ below (zQc Γ (zpi (fun x G' => zsm [901, 2055] G G' ∧ ((G.1 901 w 0 + 20 > 700 → x = -1 ∧ G'.1 901 w 0 = G.1 901 w 0 ∧ ∀ i : Nat, G'.1 2055 (Γ.2.1 w 0) i = G.1 2055 (Γ.2.1 w 0) i) ∧ (G.1 901 w 0 + 20 ≤ 700 → x = G.1 901 w 0 + 20 ∧ G'.1 901 w 0 = G.1 901 w 0 + 20 ∧ ∀ i : Nat, G'.1 2055 (Γ.2.1 w 0) i = if G.1 901 w 0 ≤ (i : Int) ∧ (i : Int) < G.1 901 w 0 + 20 then ff a1 a2 a3 a4 a5 ((i : Int) - G.1 901 w 0) else G.1 2055 (Γ.2.1 w 0) i))))) args s 0 0 (zA Γ)) 0 [some (zr 9 w), some (zi a1), some (zi a2), some (zi a3), some (zi a4), some (zi a5)] [] G
  refine zs_loc 1 rfl (fun ha1 hb1 => ?_)
  refine zs_loc 2 rfl (fun ha2 hb2 => ?_)
  refine zs_loc 3 rfl (fun ha3 hb3 => ?_)
  refine zs_loc 4 rfl (fun ha4 hb4 => ?_)
  refine zs_loc 5 rfl (fun ha5 hb5 => ?_)
  refine zs_aload_n (pc := 0) C dX8_feed_0 rfl ?_
  refine zs_geti (r := 901) (pc := 1) C dX8_feed_1 w_X8_67 f_9_1 rfl (r_901 0) (fun v1 e1 l1 u1 => ?_)
  refine zs_bipush (pc := 4) C dX8_feed_4 (by decide) (by decide) ?_
  first | refine zs_iadd (pc := 6) C dX8_feed_6 (by omega) ?_ | refine zs_iaddF (pc := 6) C dX8_feed_6 (fun z6 hz61 hz62 => ?_)
  refine zs_sipush (pc := 7) C dX8_feed_7 (by decide) (by decide) ?_
  refine zs_icmp_le (tgt := 15) (pc := 10) C dX8_feed_10 (by decide) (fun h10 => ?_) (fun h10 => ?_)
  · skip
    refine zs_aload_n (pc := 15) C dX8_feed_15 rfl ?_
    refine zs_iload_n (pc := 16) C dX8_feed_16 rfl ?_
    refine zVv1 (pc := 17) C dX8_feed_17 v_X8_70 (c_X8_putFourFZ hX (by omega)) (by decide) (by decide) ⟨Nat.zero_le _, Nat.zero_le _⟩ (Nat.le_of_ble_eq_true rfl) (fun G17 hp17 => ?_)
    obtain ⟨hz17, hq17⟩ := hp17
    refine zs_aload_n (pc := 20) C dX8_feed_20 rfl ?_
    refine zs_iload_n (pc := 21) C dX8_feed_21 rfl ?_
    refine zVv1 (pc := 22) C dX8_feed_22 v_X8_70 (c_X8_putFourFZ hX (by omega)) (by decide) (by decide) ⟨Nat.zero_le _, Nat.zero_le _⟩ (Nat.le_of_ble_eq_true rfl) (fun G22 hp22 => ?_)
    obtain ⟨hz22, hq22⟩ := hp22
    refine zs_aload_n (pc := 25) C dX8_feed_25 rfl ?_
    refine zs_iload_n (pc := 26) C dX8_feed_26 rfl ?_
    refine zVv1 (pc := 27) C dX8_feed_27 v_X8_70 (c_X8_putFourFZ hX (by omega)) (by decide) (by decide) ⟨Nat.zero_le _, Nat.zero_le _⟩ (Nat.le_of_ble_eq_true rfl) (fun G27 hp27 => ?_)
    obtain ⟨hz27, hq27⟩ := hp27
    refine zs_aload_n (pc := 30) C dX8_feed_30 rfl ?_
    refine zs_iload (pc := 31) C dX8_feed_31 rfl ?_
    refine zVv1 (pc := 33) C dX8_feed_33 v_X8_70 (c_X8_putFourFZ hX (by omega)) (by decide) (by decide) ⟨Nat.zero_le _, Nat.zero_le _⟩ (Nat.le_of_ble_eq_true rfl) (fun G33 hp33 => ?_)
    obtain ⟨hz33, hq33⟩ := hp33
    refine zs_aload_n (pc := 36) C dX8_feed_36 rfl ?_
    refine zs_iload (pc := 37) C dX8_feed_37 rfl ?_
    refine zVv1 (pc := 39) C dX8_feed_39 v_X8_70 (c_X8_putFourFZ hX (by omega)) (by decide) (by decide) ⟨Nat.zero_le _, Nat.zero_le _⟩ (Nat.le_of_ble_eq_true rfl) (fun G39 hp39 => ?_)
    obtain ⟨hz39, hq39⟩ := hp39
    refine zs_aload_n (pc := 42) C dX8_feed_42 rfl ?_
    refine zs_geti (r := 901) (pc := 43) C dX8_feed_43 w_X8_67 f_9_1 rfl (r_901 0) (fun v43 e43 l43 u43 => ?_)
    exact zs_iret (pc := 46) C hr hlk dX8_feed_46 ⟨by repeat (first | exact zsm_rf | assumption | refine zsm_C (by decide) ?_ | refine zsm_I (by decide) ?_ | refine zsm_J ?_ | refine zsm_c (by assumption) (by decide) ?_), fun h1 => (by first | (exfalso; omega) | exact ⟨rfl, rfl, fun i => rfl⟩), fun h1 => (by first | (exfalso; omega) | (refine ⟨by omega, by omega, fun i => ?_⟩; rw [hq39.2 i, hq33.2 i, hq27.2 i, hq22.2 i, hq17.2 i]; unfold ff; (repeat' split) <;> first | rfl | (exfalso; omega) | (congr 1; omega)))⟩
  · skip
    refine zs_iconst (pc := 13) C dX8_feed_13 (by decide) ?_
    exact zs_iret (pc := 14) C hr hlk dX8_feed_14 ⟨by repeat (first | exact zsm_rf | assumption | refine zsm_C (by decide) ?_ | refine zsm_I (by decide) ?_ | refine zsm_J ?_ | refine zsm_c (by assumption) (by decide) ?_), fun h1 => (by first | (exfalso; omega) | exact ⟨rfl, rfl, fun i => rfl⟩), fun h1 => (by first | (exfalso; omega) | (refine ⟨by omega, by omega, fun i => ?_⟩; rw [hq39.2 i, hq33.2 i, hq27.2 i, hq22.2 i, hq17.2 i]; unfold ff; (repeat' split) <;> first | rfl | (exfalso; omega) | (congr 1; omega)))⟩

set_option maxHeartbeats 4000000 in
set_option maxRecDepth 100000 in
theorem c_X8_crumbZ {l : Launch} {Γ : zΓ} {G : zH} {w : Nat} {a k : Int} (hX : zXs Γ)  : zMet l Γ yX8_crumb cX8_crumb 6 (some .int) 4 [zr 9 w, zi a, zi k] G (zpi (fun x G' => zsm [] G G' ∧ True)) := by
  refine zMet_of RX8 hX (by decide) rfl (Nat.le_of_ble_eq_true rfl) ?_
  intro p e s m args below meth c C hr hlk
  show Z p l e (zrm 4) s m args below meth c Γ 6 0 0 (MQ below (zQc Γ (zpi (fun x G' => zsm [] G G' ∧ True))) args s 0 0 (zA Γ)) 0 [some (zr 9 w), some (zi a), some (zi k), none, none, none] [] G
  refine zs_loc 1 rfl (fun ha1 hb1 => ?_)
  refine zs_loc 2 rfl (fun ha2 hb2 => ?_)
  refine zs_aload_n (pc := 0) C dX8_crumb_0 rfl ?_
  refine zs_getf (pc := 1) C dX8_crumb_1 w_X8_34 f_9_4 (by decide) ?_
  refine zs_getf (pc := 4) C dX8_crumb_4 w_X8_172 f_8_1 (by decide) ?_
  refine zs_iload_n (pc := 7) C dX8_crumb_7 rfl ?_
  refine zVip1 (pc := 8) C dX8_crumb_8 v_X8_197 (c_X4_has hX ) (by decide) (by decide) ⟨Nat.zero_le _, Nat.zero_le _⟩ (Nat.le_of_ble_eq_true rfl) (fun x8 l8 u8 hp8 => ?_)
  have hq8 := hp8
  refine zs_if_eq (tgt := 23) (pc := 11) C dX8_crumb_11 (by decide) (fun h11 => ?_) (fun h11 => ?_)
  · skip
    refine zs_iconst (pc := 23) C dX8_crumb_23 (by decide) ?_
    exact zs_iret (pc := 24) C hr hlk dX8_crumb_24 ⟨by repeat (first | exact zsm_rf | assumption | refine zsm_C (by decide) ?_ | refine zsm_I (by decide) ?_ | refine zsm_J ?_ | refine zsm_c (by assumption) (by decide) ?_), trivial⟩
  · skip
    refine zs_iload_n (pc := 14) C dX8_crumb_14 rfl ?_
    refine zs_if_lt (tgt := 23) (pc := 15) C dX8_crumb_15 (by decide) (fun h15 => ?_) (fun h15 => ?_)
    · skip
      refine zs_iconst (pc := 23) C dX8_crumb_23 (by decide) ?_
      exact zs_iret (pc := 24) C hr hlk dX8_crumb_24 ⟨by repeat (first | exact zsm_rf | assumption | refine zsm_C (by decide) ?_ | refine zsm_I (by decide) ?_ | refine zsm_J ?_ | refine zsm_c (by assumption) (by decide) ?_), trivial⟩
    · skip
      refine zs_iload_n (pc := 18) C dX8_crumb_18 rfl ?_
      refine zs_iconst (pc := 19) C dX8_crumb_19 (by decide) ?_
      refine zs_icmp_le (tgt := 25) (pc := 20) C dX8_crumb_20 (by decide) (fun h20 => ?_) (fun h20 => ?_)
      · skip
        refine zs_iconst (pc := 25) C dX8_crumb_25 (by decide) ?_
        refine zs_istore_n (pc := 26) C dX8_crumb_26 (by decide) ?_
        dsimp only [zset, zclr, znone]
        refine zs_iconst (pc := 27) C dX8_crumb_27 (by decide) ?_
        refine zs_istore (pc := 28) C dX8_crumb_28 (by decide) ?_
        dsimp only [zset, zclr, znone]
        refine zs_iconst (pc := 30) C dX8_crumb_30 (by decide) ?_
        refine zs_istore (pc := 31) C dX8_crumb_31 (by decide) ?_
        dsimp only [zset, zclr, znone]
        have L33 : ∀ (nn : Nat) (x3 x4 x5 : Int) (G1 : zH), (0 ≤ x5 ∧ x5 ≤ 4) → (zsm [] G G1) → (4 - x5).toNat < nn → Z p l e (zrm 4) s m args below meth c Γ 6 0 0 (MQ below (zQc Γ (zpi (fun x G' => zsm [] G G' ∧ True))) args s 0 0 (zA Γ)) 33 [some (zr 9 w), some (zi a), some (zi k), some (zi x3), some (zi x4), some (zi x5)] [] G1 := by
          intro nn
          induction nn with
          | zero => intro x3 x4 x5 G1 h33_0 h33_1 hm; exact absurd hm (Nat.not_lt_zero _)
          | succ nn ih33 =>
            intro x3 x4 x5 G1 h33_0 h33_1 hm33
            refine zs_iload (pc := 33) C dX8_crumb_33 rfl ?_
            refine zs_aload_n (pc := 35) C dX8_crumb_35 rfl ?_
            refine zs_getd (r := 903) (pc := 36) C dX8_crumb_36 w_X8_25 f_9_3 (by decide) rfl (fun v36 e36 t36 => ?_)
            try simp only [h33_1.2, zuI_1, zuI_2, zuJ_1, zuJ_2, zuJ_3, zuP_1, zuP_2, zuP_3, zuC_1, zuC_2, reduceIte, Nat.reduceEqDiff, false_and, and_false, true_and, and_true, and_self, or_true, true_or, or_false, false_or] at e36
            refine zs_getf (pc := 39) C dX8_crumb_39 w_X8_262 f_6_2 (by decide) ?_
            refine zs_iconst (pc := 42) C dX8_crumb_42 (by decide) ?_
            refine zs_iald (r := 2037) (pc := 43) C dX8_crumb_43 a_37 (by decide) (by omega) rfl rfl (fun v43 e43 l43 u43 => ?_)
            have hsz := rs_2037 (0 : Int).toNat
            refine zs_icmp_ge (tgt := 117) (pc := 44) C dX8_crumb_44 (by decide) (fun h44 => ?_) (fun h44 => ?_)
            · skip
              refine zs_iload_n (pc := 117) C dX8_crumb_117 rfl ?_
              refine zs_name (fun y118 ey118 => ?_)
              rcases (show y118 = 0 ∨ y118 = 1 ∨ (y118 ≠ 0 ∧ y118 ≠ 1) by omega) with h118 | h118 | h118
              · skip
                refine zs_look (tgt := 144) (pc := 118) C dX8_crumb_118 (by decide) (by first | (rw [h118]; done) | (rw [h118]; rfl)) (by decide) ?_
                refine zs_iload_n (pc := 144) C dX8_crumb_144 rfl ?_
                exact zs_iret (pc := 145) C hr hlk dX8_crumb_145 ⟨by repeat (first | exact zsm_rf | assumption | refine zsm_C (by decide) ?_ | refine zsm_I (by decide) ?_ | refine zsm_J ?_ | refine zsm_c (by assumption) (by decide) ?_), trivial⟩
              · skip
                refine zs_look (tgt := 146) (pc := 118) C dX8_crumb_118 (by decide) (by first | (rw [h118]; done) | (rw [h118]; rfl)) (by decide) ?_
                refine zs_iload (pc := 146) C dX8_crumb_146 rfl ?_
                exact zs_iret (pc := 148) C hr hlk dX8_crumb_148 ⟨by repeat (first | exact zsm_rf | assumption | refine zsm_C (by decide) ?_ | refine zsm_I (by decide) ?_ | refine zsm_J ?_ | refine zsm_c (by assumption) (by decide) ?_), trivial⟩
              · skip
                refine zs_look (off := 31) (tgt := 149) (pc := 118) C dX8_crumb_118 (by decide) (by have h9 := h118; simp [Op.lookupswitch.offset]; omega) (by decide) ?_
                refine zs_aload_n (pc := 149) C dX8_crumb_149 rfl ?_
                refine zs_iload_n (pc := 150) C dX8_crumb_150 rfl ?_
                refine zs_iload_n (pc := 151) C dX8_crumb_151 rfl ?_
                refine zs_iload (pc := 152) C dX8_crumb_152 rfl ?_
                refine zs_iload_n (pc := 154) C dX8_crumb_154 rfl ?_
                refine zs_iconst (pc := 155) C dX8_crumb_155 (by decide) ?_
                refine zs_icmp_ne (tgt := 163) (pc := 156) C dX8_crumb_156 (by decide) (fun h156 => ?_) (fun h156 => ?_)
                · skip
                  refine zs_iconst (pc := 163) C dX8_crumb_163 (by decide) ?_
                  refine zVip4 (pc := 164) C dX8_crumb_164 v_X8_269 (c_X8_oddsOfLie hX (by omega)) (by decide) (by decide) ⟨Nat.zero_le _, Nat.zero_le _⟩ (Nat.le_of_ble_eq_true rfl) (fun x164 l164 u164 hp164 => ?_)
                  have hq164 := hp164
                  exact zs_iret (pc := 167) C hr hlk dX8_crumb_167 ⟨by repeat (first | exact zsm_rf | assumption | refine zsm_C (by decide) ?_ | refine zsm_I (by decide) ?_ | refine zsm_J ?_ | refine zsm_c (by assumption) (by decide) ?_), trivial⟩
                · skip
                  refine zs_iconst (pc := 159) C dX8_crumb_159 (by decide) ?_
                  refine zs_goto (tgt := 164) (pc := 160) C dX8_crumb_160 (by decide) ?_
                  refine zVip4 (pc := 164) C dX8_crumb_164 v_X8_269 (c_X8_oddsOfLie hX (by omega)) (by decide) (by decide) ⟨Nat.zero_le _, Nat.zero_le _⟩ (Nat.le_of_ble_eq_true rfl) (fun x164 l164 u164 hp164 => ?_)
                  have hq164 := hp164
                  exact zs_iret (pc := 167) C hr hlk dX8_crumb_167 ⟨by repeat (first | exact zsm_rf | assumption | refine zsm_C (by decide) ?_ | refine zsm_I (by decide) ?_ | refine zsm_J ?_ | refine zsm_c (by assumption) (by decide) ?_), trivial⟩
            · skip
              refine zs_aload_n (pc := 47) C dX8_crumb_47 rfl ?_
              refine zs_getf (pc := 48) C dX8_crumb_48 w_X8_34 f_9_4 (by decide) ?_
              refine zs_iload_n (pc := 51) C dX8_crumb_51 rfl ?_
              refine zs_iconst (pc := 52) C dX8_crumb_52 (by decide) ?_
              refine zs_iload (pc := 53) C dX8_crumb_53 rfl ?_
              refine zVi3 (pc := 55) C dX8_crumb_55 v_X8_265 (c_X7_fineThen hX (by omega) (by omega)) (by decide) (by decide) ⟨Nat.zero_le _, Nat.zero_le _⟩ (Nat.le_of_ble_eq_true rfl) (fun x55 G55 l55 u55 hp55 => ?_)
              obtain ⟨hz55, hq55⟩ := hp55
              refine zs_aload_n (pc := 58) C dX8_crumb_58 rfl ?_
              refine zs_getf (pc := 59) C dX8_crumb_59 w_X8_34 f_9_4 (by decide) ?_
              refine zs_getf (pc := 62) C dX8_crumb_62 w_X8_172 f_8_1 (by decide) ?_
              refine zs_getf (pc := 65) C dX8_crumb_65 w_X8_206 f_5_2 (by decide) ?_
              refine zs_iload_n (pc := 68) C dX8_crumb_68 rfl ?_
              refine zs_iald (r := 2028) (pc := 69) C dX8_crumb_69 a_28 (by decide) (by omega) rfl (r_2028 _) (fun v69 e69 l69 u69 => ?_)
              refine zs_icmp_eq (tgt := 76) (pc := 70) C dX8_crumb_70 (by decide) (fun h70 => ?_) (fun h70 => ?_)
              · skip
                refine zs_aload_n (pc := 76) C dX8_crumb_76 rfl ?_
                refine zs_getf (pc := 77) C dX8_crumb_77 w_X8_34 f_9_4 (by decide) ?_
                refine zs_getf (pc := 80) C dX8_crumb_80 w_X8_172 f_8_1 (by decide) ?_
                refine zs_iload_n (pc := 83) C dX8_crumb_83 rfl ?_
                refine zs_iload (pc := 84) C dX8_crumb_84 rfl ?_
                refine zVip2 (pc := 86) C dX8_crumb_86 v_X8_212 (c_X4_lieBy hX (by omega)) (by decide) (by decide) ⟨Nat.zero_le _, Nat.zero_le _⟩ (Nat.le_of_ble_eq_true rfl) (fun x86 l86 u86 hp86 => ?_)
                have hq86 := hp86
                refine zs_if_ne (tgt := 102) (pc := 89) C dX8_crumb_89 (by decide) (fun h89 => ?_) (fun h89 => ?_)
                · skip
                  refine zs_iload (pc := 102) C dX8_crumb_102 rfl ?_
                  refine zs_iconst (pc := 104) C dX8_crumb_104 (by decide) ?_
                  refine zs_iload (pc := 105) C dX8_crumb_105 rfl ?_
                  refine zs_ishlF (pc := 107) C dX8_crumb_107 (fun z107 hz1071 hz1072 => ?_)
                  refine zs_iorF (pc := 108) C dX8_crumb_108 (fun z108 hz1081 hz1082 => ?_)
                  refine zs_istore (pc := 109) C dX8_crumb_109 (by decide) ?_
                  dsimp only [zset, zclr, znone]
                  first | refine zs_iinc (pc := 111) C dX8_crumb_111 rfl (by decide) (by omega) ?_ | refine zs_iincF (pc := 111) C dX8_crumb_111 rfl (by decide) (fun z111 hz1111 hz1112 => ?_)
                  dsimp only [zset, zclr, znone]
                  refine zs_goto (tgt := 33) (pc := 114) C dX8_crumb_114 (by decide) ?_
                  exact zs_wk (ih33 _ _ _ _ (by first | omega | (simp only [zuI_1, zuI_2, zuJ_1, zuJ_2, zuJ_3, zuP_1, zuP_2, zuP_3, zuC_1, zuC_2, reduceIte, Nat.reduceEqDiff, false_and, and_false, true_and, and_true, and_self, or_true, true_or, or_false, false_or]; omega)) (by repeat (first | exact zsm_rf | assumption | refine zsm_C (by decide) ?_ | refine zsm_I (by decide) ?_ | refine zsm_J ?_ | refine zsm_c (by assumption) (by decide) ?_)) (by first | omega | (simp only [zuI_1, zuI_2, zuJ_1, zuJ_2, zuJ_3, zuP_1, zuP_2, zuP_3, zuC_1, zuC_2, reduceIte, Nat.reduceEqDiff, false_and, and_false, true_and, and_true, and_self, or_true, true_or, or_false, false_or]; omega))) (zwk_s rfl (zwk_s rfl (zwk_s rfl (zwk_s rfl (zwk_s rfl (zwk_s rfl zwk_0))))))
                · skip
                  refine zs_iload_n (pc := 92) C dX8_crumb_92 rfl ?_
                  refine zs_iconst (pc := 93) C dX8_crumb_93 (by decide) ?_
                  refine zs_iload (pc := 94) C dX8_crumb_94 rfl ?_
                  refine zs_ishlF (pc := 96) C dX8_crumb_96 (fun z96 hz961 hz962 => ?_)
                  refine zs_iorF (pc := 97) C dX8_crumb_97 (fun z97 hz971 hz972 => ?_)
                  refine zs_istore_n (pc := 98) C dX8_crumb_98 (by decide) ?_
                  dsimp only [zset, zclr, znone]
                  refine zs_goto (tgt := 111) (pc := 99) C dX8_crumb_99 (by decide) ?_
                  first | refine zs_iinc (pc := 111) C dX8_crumb_111 rfl (by decide) (by omega) ?_ | refine zs_iincF (pc := 111) C dX8_crumb_111 rfl (by decide) (fun z111 hz1111 hz1112 => ?_)
                  dsimp only [zset, zclr, znone]
                  refine zs_goto (tgt := 33) (pc := 114) C dX8_crumb_114 (by decide) ?_
                  exact zs_wk (ih33 _ _ _ _ (by first | omega | (simp only [zuI_1, zuI_2, zuJ_1, zuJ_2, zuJ_3, zuP_1, zuP_2, zuP_3, zuC_1, zuC_2, reduceIte, Nat.reduceEqDiff, false_and, and_false, true_and, and_true, and_self, or_true, true_or, or_false, false_or]; omega)) (by repeat (first | exact zsm_rf | assumption | refine zsm_C (by decide) ?_ | refine zsm_I (by decide) ?_ | refine zsm_J ?_ | refine zsm_c (by assumption) (by decide) ?_)) (by first | omega | (simp only [zuI_1, zuI_2, zuJ_1, zuJ_2, zuJ_3, zuP_1, zuP_2, zuP_3, zuC_1, zuC_2, reduceIte, Nat.reduceEqDiff, false_and, and_false, true_and, and_true, and_self, or_true, true_or, or_false, false_or]; omega))) (zwk_s rfl (zwk_s rfl (zwk_s rfl (zwk_s rfl (zwk_s rfl (zwk_s rfl zwk_0))))))
              · skip
                refine zs_goto (tgt := 111) (pc := 73) C dX8_crumb_73 (by decide) ?_
                first | refine zs_iinc (pc := 111) C dX8_crumb_111 rfl (by decide) (by omega) ?_ | refine zs_iincF (pc := 111) C dX8_crumb_111 rfl (by decide) (fun z111 hz1111 hz1112 => ?_)
                dsimp only [zset, zclr, znone]
                refine zs_goto (tgt := 33) (pc := 114) C dX8_crumb_114 (by decide) ?_
                exact zs_wk (ih33 _ _ _ _ (by first | omega | (simp only [zuI_1, zuI_2, zuJ_1, zuJ_2, zuJ_3, zuP_1, zuP_2, zuP_3, zuC_1, zuC_2, reduceIte, Nat.reduceEqDiff, false_and, and_false, true_and, and_true, and_self, or_true, true_or, or_false, false_or]; omega)) (by repeat (first | exact zsm_rf | assumption | refine zsm_C (by decide) ?_ | refine zsm_I (by decide) ?_ | refine zsm_J ?_ | refine zsm_c (by assumption) (by decide) ?_)) (by first | omega | (simp only [zuI_1, zuI_2, zuJ_1, zuJ_2, zuJ_3, zuP_1, zuP_2, zuP_3, zuC_1, zuC_2, reduceIte, Nat.reduceEqDiff, false_and, and_false, true_and, and_true, and_self, or_true, true_or, or_false, false_or]; omega))) (zwk_s rfl (zwk_s rfl (zwk_s rfl (zwk_s rfl (zwk_s rfl (zwk_s rfl zwk_0))))))
        exact zs_wk (L33 _ _ _ _ _ (by first | omega | (simp only [zuI_1, zuI_2, zuJ_1, zuJ_2, zuJ_3, zuP_1, zuP_2, zuP_3, zuC_1, zuC_2, reduceIte, Nat.reduceEqDiff, false_and, and_false, true_and, and_true, and_self, or_true, true_or, or_false, false_or]; omega)) (by repeat (first | exact zsm_rf | assumption | refine zsm_C (by decide) ?_ | refine zsm_I (by decide) ?_ | refine zsm_J ?_ | refine zsm_c (by assumption) (by decide) ?_)) (Nat.lt_succ_self _)) (zwk_s rfl (zwk_s rfl (zwk_s rfl (zwk_s rfl (zwk_s rfl (zwk_s rfl zwk_0))))))
      · skip
        refine zs_iconst (pc := 23) C dX8_crumb_23 (by decide) ?_
        exact zs_iret (pc := 24) C hr hlk dX8_crumb_24 ⟨by repeat (first | exact zsm_rf | assumption | refine zsm_C (by decide) ?_ | refine zsm_I (by decide) ?_ | refine zsm_J ?_ | refine zsm_c (by assumption) (by decide) ?_), trivial⟩

set_option maxHeartbeats 4000000 in
set_option maxRecDepth 100000 in
theorem c_X8_pairsZ {l : Launch} {Γ : zΓ} {G : zH} {w : Nat}  (hX : zXs Γ)  : zMet l Γ yX8_pairs cX8_pairs 1 (some .long) 10 [zr 9 w] G (zpj (fun x G' => zsm [103, 105, 2011, 2012] G G' ∧ True)) := by
  refine zMet_of RX8 hX (by decide) rfl (Nat.le_of_ble_eq_true rfl) ?_
  intro p e s m args below meth c C hr hlk
  show Z p l e (zrm 10) s m args below meth c Γ 1 0 0 (MQ below (zQc Γ (zpj (fun x G' => zsm [103, 105, 2011, 2012] G G' ∧ True))) args s 0 0 (zA Γ)) 0 [some (zr 9 w)] [] G
  refine zs_aload_n (pc := 0) C dX8_pairs_0 rfl ?_
  refine zs_getd (r := 903) (pc := 1) C dX8_pairs_1 w_X8_25 f_9_3 (by decide) rfl (fun v1 e1 t1 => ?_)
  refine zs_getf (pc := 4) C dX8_pairs_4 w_X8_262 f_6_2 (by decide) ?_
  refine zs_iconst (pc := 7) C dX8_pairs_7 (by decide) ?_
  refine zs_iald (r := 2037) (pc := 8) C dX8_pairs_8 a_37 (by decide) (by omega) rfl rfl (fun v8 e8 l8 u8 => ?_)
  refine zs_if_ne (tgt := 16) (pc := 9) C dX8_pairs_9 (by decide) (fun h9 => ?_) (fun h9 => ?_)
  · skip
    refine zs_aload_n (pc := 16) C dX8_pairs_16 rfl ?_
    refine zs_getf (pc := 17) C dX8_pairs_17 w_X8_56 f_9_8 (by decide) ?_
    refine zs_aload_n (pc := 20) C dX8_pairs_20 rfl ?_
    refine zs_getf (pc := 21) C dX8_pairs_21 w_X8_34 f_9_4 (by decide) ?_
    refine zVv1 (pc := 24) C dX8_pairs_24 v_X8_306 (c_X0_bringTogether hX ) (by decide) (by decide) ⟨Nat.zero_le _, Nat.zero_le _⟩ (Nat.le_of_ble_eq_true rfl) (fun G24 hp24 => ?_)
    obtain ⟨hz24, hq24⟩ := hp24
    refine zs_aload_n (pc := 27) C dX8_pairs_27 rfl ?_
    refine zs_getf (pc := 28) C dX8_pairs_28 w_X8_56 f_9_8 (by decide) ?_
    refine zs_getj (r := 104) (pc := 31) C dX8_pairs_31 w_X8_309 f_1_4 rfl (fun v31 e31 l31 u31 => ?_)
    exact zs_lret (pc := 34) C hr hlk dX8_pairs_34 ⟨by repeat (first | exact zsm_rf | assumption | refine zsm_C (by decide) ?_ | refine zsm_I (by decide) ?_ | refine zsm_J ?_ | refine zsm_c (by assumption) (by decide) ?_), trivial⟩
  · skip
    refine zs_ldc2 (n := -9223372036854775808) (pc := 12) C dX8_pairs_12 q_X8_152 (by decide) (by decide) ?_
    exact zs_lret (pc := 15) C hr hlk dX8_pairs_15 ⟨by repeat (first | exact zsm_rf | assumption | refine zsm_C (by decide) ?_ | refine zsm_I (by decide) ?_ | refine zsm_J ?_ | refine zsm_c (by assumption) (by decide) ?_), trivial⟩

set_option maxHeartbeats 4000000 in
set_option maxRecDepth 100000 in
theorem c_X8_pairedZ {l : Launch} {Γ : zΓ} {G : zH} {w : Nat} {p0 : Int} (hX : zXs Γ)  : zMet l Γ yX8_paired cX8_paired 3 (some .int) 10 [zr 9 w, zi p0] G (zpi (fun x G' => zsm [103, 105, 2011, 2012] G G' ∧ True)) := by
  refine zMet_of RX8 hX (by decide) rfl (Nat.le_of_ble_eq_true rfl) ?_
  intro p e s m args below meth c C hr hlk
  show Z p l e (zrm 10) s m args below meth c Γ 3 0 0 (MQ below (zQc Γ (zpi (fun x G' => zsm [103, 105, 2011, 2012] G G' ∧ True))) args s 0 0 (zA Γ)) 0 [some (zr 9 w), some (zi p0), none] [] G
  refine zs_loc 1 rfl (fun ha1 hb1 => ?_)
  refine zs_aload_n (pc := 0) C dX8_paired_0 rfl ?_
  refine zs_getd (r := 903) (pc := 1) C dX8_paired_1 w_X8_25 f_9_3 (by decide) rfl (fun v1 e1 t1 => ?_)
  refine zs_iconst (pc := 4) C dX8_paired_4 (by decide) ?_
  refine zs_iload_n (pc := 5) C dX8_paired_5 rfl ?_
  refine zVip2 (pc := 6) C dX8_paired_6 v_X8_104 (c_X5_has hX (by omega)) (by decide) (by decide) ⟨Nat.zero_le _, Nat.zero_le _⟩ (Nat.le_of_ble_eq_true rfl) (fun x6 l6 u6 hp6 => ?_)
  have hq6 := hp6
  refine zs_if_ne (tgt := 14) (pc := 9) C dX8_paired_9 (by decide) (fun h9 => ?_) (fun h9 => ?_)
  · skip
    refine zs_aload_n (pc := 14) C dX8_paired_14 rfl ?_
    refine zs_getf (pc := 15) C dX8_paired_15 w_X8_56 f_9_8 (by decide) ?_
    refine zs_aload_n (pc := 18) C dX8_paired_18 rfl ?_
    refine zs_getf (pc := 19) C dX8_paired_19 w_X8_34 f_9_4 (by decide) ?_
    refine zVv1 (pc := 22) C dX8_paired_22 v_X8_306 (c_X0_bringTogether hX ) (by decide) (by decide) ⟨Nat.zero_le _, Nat.zero_le _⟩ (Nat.le_of_ble_eq_true rfl) (fun G22 hp22 => ?_)
    obtain ⟨hz22, hq22⟩ := hp22
    refine zs_aload_n (pc := 25) C dX8_paired_25 rfl ?_
    refine zs_getf (pc := 26) C dX8_paired_26 w_X8_56 f_9_8 (by decide) ?_
    refine zs_getf (pc := 29) C dX8_paired_29 w_X8_313 f_1_1 (by decide) ?_
    refine zs_iload_n (pc := 32) C dX8_paired_32 rfl ?_
    refine zs_iald (r := 2012) (pc := 33) C dX8_paired_33 a_12 (by decide) (by omega) rfl (r_2012 _) (fun v33 e33 l33 u33 => ?_)
    refine zs_istore_n (pc := 34) C dX8_paired_34 (by decide) ?_
    dsimp only [zset, zclr, znone]
    refine zs_iload_n (pc := 35) C dX8_paired_35 rfl ?_
    refine zs_iconst (pc := 36) C dX8_paired_36 (by decide) ?_
    refine zs_icmp_ne (tgt := 45) (pc := 37) C dX8_paired_37 (by decide) (fun h37 => ?_) (fun h37 => ?_)
    · skip
      refine zs_iload_n (pc := 45) C dX8_paired_45 rfl ?_
      exact zs_iret (pc := 46) C hr hlk dX8_paired_46 ⟨by repeat (first | exact zsm_rf | assumption | refine zsm_C (by decide) ?_ | refine zsm_I (by decide) ?_ | refine zsm_J ?_ | refine zsm_c (by assumption) (by decide) ?_), trivial⟩
    · skip
      refine zs_bipush (pc := 40) C dX8_paired_40 (by decide) (by decide) ?_
      refine zs_goto (tgt := 46) (pc := 42) C dX8_paired_42 (by decide) ?_
      exact zs_iret (pc := 46) C hr hlk dX8_paired_46 ⟨by repeat (first | exact zsm_rf | assumption | refine zsm_C (by decide) ?_ | refine zsm_I (by decide) ?_ | refine zsm_J ?_ | refine zsm_c (by assumption) (by decide) ?_), trivial⟩
  · skip
    refine zs_iconst (pc := 12) C dX8_paired_12 (by decide) ?_
    exact zs_iret (pc := 13) C hr hlk dX8_paired_13 ⟨by repeat (first | exact zsm_rf | assumption | refine zsm_C (by decide) ?_ | refine zsm_I (by decide) ?_ | refine zsm_J ?_ | refine zsm_c (by assumption) (by decide) ?_), trivial⟩

set_option maxHeartbeats 4000000 in
set_option maxRecDepth 100000 in
theorem c_X8_lookJ {l : Launch} {Γ : zΓ} {G : zH} {w : Nat} {a b : Int} (hX : zXs Γ) (hst : l.stackTraces = false) : zMx l Γ yX8_look cX8_look 3 (some .int) 8 [zr 9 w, zi a, zi b] G (zpi (fun x G' => G' = G ∧ True)) := by
  refine zMx_of RX8 hX (by decide) rfl (Nat.le_of_ble_eq_true rfl) ?_
  intro p e s m args below meth c C hr hlk hTw hex
  show Z p l e (zrC 8 1 6) s m args below meth c Γ 3 0 0 (vx_MQ below (zQc Γ (zpi (fun x G' => G' = G ∧ True))) (zXC Γ G) args s 1 6 (zA Γ)) 0 [some (zr 9 w), some (zi a), some (zi b)] [] G
  refine zs_loc 1 rfl (fun ha1 hb1 => ?_)
  refine zs_loc 2 rfl (fun ha2 hb2 => ?_)
  refine zs_aload_n (pc := 0) C dX8_look_0 rfl ?_
  refine zs_getd (r := 903) (pc := 1) C dX8_look_1 w_X8_25 f_9_3 (by decide) rfl (fun v1 e1 t1 => ?_)
  refine zs_iconst (pc := 4) C dX8_look_4 (by decide) ?_
  refine zs_iload_n (pc := 5) C dX8_look_5 rfl ?_
  refine zVip2 (pc := 6) C dX8_look_6 v_X8_104 (c_X5_has hX (by omega)) (by decide) (by decide) ⟨Nat.zero_le _, Nat.zero_le _⟩ (Nat.le_of_ble_eq_true rfl) (fun x6 l6 u6 hp6 => ?_)
  have hq6 := hp6
  refine zs_if_ne (tgt := 22) (pc := 9) C dX8_look_9 (by decide) (fun h9 => ?_) (fun h9 => ?_)
  · skip
    refine zs_iload_n (pc := 22) C dX8_look_22 rfl ?_
    refine zs_name (fun y23 ey23 => ?_)
    rcases (show y23 = 0 ∨ y23 = 1 ∨ y23 = 2 ∨ y23 = 3 ∨ y23 = 4 ∨ (y23 < 0 ∨ 4 < y23) by omega) with h23 | h23 | h23 | h23 | h23 | h23
    · skip
      refine zs_tabIn (pc := 23) (tgt := 56) C 0 dX8_look_23 h23 (by decide) rfl (by decide) ?_
      refine zs_aload_n (pc := 56) C dX8_look_56 rfl ?_
      refine zs_getd (r := 903) (pc := 57) C dX8_look_57 w_X8_25 f_9_3 (by decide) rfl (fun v57 e57 t57 => ?_)
      refine zs_getf (pc := 60) C dX8_look_60 w_X8_115 f_6_4 (by decide) ?_
      refine zs_iload_n (pc := 63) C dX8_look_63 rfl ?_
      refine zs_iald (r := 2039) (pc := 64) C dX8_look_64 a_39 (by decide) (by omega) rfl (r_2039 _) (fun v64 e64 l64 u64 => ?_)
      exact zs_iretX (pc := 65) C hr hlk dX8_look_65 ⟨rfl, trivial⟩
    · skip
      refine zs_tabIn (pc := 23) (tgt := 66) C 1 dX8_look_23 h23 (by decide) rfl (by decide) ?_
      refine zs_aload_n (pc := 66) C dX8_look_66 rfl ?_
      refine zs_getf (pc := 67) C dX8_look_67 w_X8_34 f_9_4 (by decide) ?_
      refine zs_getf (pc := 70) C dX8_look_70 w_X8_118 f_8_4 (by decide) ?_
      refine zs_iload_n (pc := 73) C dX8_look_73 rfl ?_
      refine zs_iald (r := 2050) (pc := 74) C dX8_look_74 a_50 (by decide) (by omega) rfl (r_2050 _) (fun v74 e74 l74 u74 => ?_)
      exact zs_iretX (pc := 75) C hr hlk dX8_look_75 ⟨rfl, trivial⟩
    · skip
      refine zs_tabIn (pc := 23) (tgt := 76) C 2 dX8_look_23 h23 (by decide) rfl (by decide) ?_
      refine zs_aload_n (pc := 76) C dX8_look_76 rfl ?_
      refine zs_getf (pc := 77) C dX8_look_77 w_X8_34 f_9_4 (by decide) ?_
      refine zs_getf (pc := 80) C dX8_look_80 w_X8_121 f_8_5 (by decide) ?_
      refine zs_iload_n (pc := 83) C dX8_look_83 rfl ?_
      refine zs_iald (r := 2051) (pc := 84) C dX8_look_84 a_51 (by decide) (by omega) rfl (r_2051 _) (fun v84 e84 l84 u84 => ?_)
      exact zs_iretX (pc := 85) C hr hlk dX8_look_85 ⟨rfl, trivial⟩
    · skip
      refine zs_tabIn (pc := 23) (tgt := 86) C 3 dX8_look_23 h23 (by decide) rfl (by decide) ?_
      refine zs_aload_n (pc := 86) C dX8_look_86 rfl ?_
      refine zs_getf (pc := 87) C dX8_look_87 w_X8_34 f_9_4 (by decide) ?_
      refine zs_iload_n (pc := 90) C dX8_look_90 rfl ?_
      refine zVip1 (pc := 91) C dX8_look_91 v_X8_124 (c_X7_prideOf hX (by omega)) (by decide) (by decide) ⟨Nat.zero_le _, Nat.zero_le _⟩ (Nat.le_of_ble_eq_true rfl) (fun x91 l91 u91 hp91 => ?_)
      have hq91 := hp91
      exact zs_iretX (pc := 94) C hr hlk dX8_look_94 ⟨rfl, trivial⟩
    · skip
      refine zs_tabIn (pc := 23) (tgt := 95) C 4 dX8_look_23 h23 (by decide) rfl (by decide) ?_
      refine zs_aload_n (pc := 95) C dX8_look_95 rfl ?_
      refine zs_getf (pc := 96) C dX8_look_96 w_X8_34 f_9_4 (by decide) ?_
      refine zs_getf (pc := 99) C dX8_look_99 w_X8_128 f_8_6 (by decide) ?_
      refine zs_iload_n (pc := 102) C dX8_look_102 rfl ?_
      refine zs_iald (r := 2052) (pc := 103) C dX8_look_103 a_52 (by decide) (by omega) rfl (r_2052 _) (fun v103 e103 l103 u103 => ?_)
      exact zs_iretX (pc := 104) C hr hlk dX8_look_104 ⟨rfl, trivial⟩
    · skip
      refine zs_tabOut (tgt := 105) (pc := 23) C dX8_look_23 h23 (by decide) ?_
      exact zs_throw2 (pc := 105) C hst hTw hex hlk dX8_look_105 dX8_look_108 dX8_look_109 dX8_look_111 dX8_look_114 (show 6 ≤ 8 ∧ 100 ≤ 40 * 8 ∧ 1 ≤ 1 ∧ 6 ≤ 6 by decide)
  · skip
    exact zs_throw1 (pc := 12) C hst hTw hex hlk dX8_look_12 dX8_look_15 dX8_look_16 dX8_look_18 dX8_look_21 (show 6 ≤ 8 ∧ 100 ≤ 40 * 8 ∧ 1 ≤ 1 ∧ 6 ≤ 6 by decide)
