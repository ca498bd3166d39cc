set_option maxHeartbeats 4000000 in
set_option maxRecDepth 100000 in
theorem c_X4_has {l : Launch} {Γ : zΓ} {G : zH} {w : Nat} {k : Int} (hX : zXs Γ)  : zMet l Γ yX4_has cX4_has 2 (some .boolean) 0 [zr 5 w, zi k] G (zpi (fun x G' => G' = G ∧ ((x = 0 ∨ x = 1) ∧ (x = 1 ↔ 0 ≤ k ∧ k < G.1 510 w 0) ∧ (x = 1 → k < 60)))) := by
  refine zMet_of RX4 hX (by decide) rfl (Nat.le_of_ble_eq_true rfl) ?_
  intro p e s m args below meth c C hr hlk
  show Z p l e (zrm 0) s m args below meth c Γ 2 0 0 (MQ below (zQc Γ (zpi (fun x G' => G' = G ∧ ((x = 0 ∨ x = 1) ∧ (x = 1 ↔ 0 ≤ k ∧ k < G.1 510 w 0) ∧ (x = 1 → k < 60))))) args s 0 0 (zA Γ)) 0 [some (zr 5 w), some (zi k)] [] G
  refine zs_loc 1 rfl (fun ha1 hb1 => ?_)
  refine zs_iload_n (pc := 0) C dX4_has_0 rfl ?_
  refine zs_if_lt (tgt := 16) (pc := 1) C dX4_has_1 (by decide) (fun h1 => ?_) (fun h1 => ?_)
  · skip
    refine zs_iconst (pc := 16) C dX4_has_16 (by decide) ?_
    exact zs_zret (pc := 17) C hr hlk dX4_has_17 (by omega) ⟨rfl, by first | omega | (simp only [zuI_1, zuI_2, zuJ_1, zuJ_2, zuJ_3, zuP_1, zuP_2, zuP_3, zuC_1, zuC_2, reduceIte, Nat.reduceEqDiff, false_and, and_false, true_and, and_true, and_self, or_true, true_or, or_false, false_or]; omega)⟩
  · skip
    refine zs_iload_n (pc := 4) C dX4_has_4 rfl ?_
    refine zs_aload_n (pc := 5) C dX4_has_5 rfl ?_
    refine zs_geti (r := 510) (pc := 6) C dX4_has_6 w_X4_42 f_5_10 rfl (r_510 0) (fun v6 e6 l6 u6 => ?_)
    refine zs_icmp_ge (tgt := 16) (pc := 9) C dX4_has_9 (by decide) (fun h9 => ?_) (fun h9 => ?_)
    · skip
      refine zs_iconst (pc := 16) C dX4_has_16 (by decide) ?_
      exact zs_zret (pc := 17) C hr hlk dX4_has_17 (by omega) ⟨rfl, by first | omega | (simp only [zuI_1, zuI_2, zuJ_1, zuJ_2, zuJ_3, zuP_1, zuP_2, zuP_3, zuC_1, zuC_2, reduceIte, Nat.reduceEqDiff, false_and, and_false, true_and, and_true, and_self, or_true, true_or, or_false, false_or]; omega)⟩
    · skip
      refine zs_iconst (pc := 12) C dX4_has_12 (by decide) ?_
      refine zs_goto (tgt := 17) (pc := 13) C dX4_has_13 (by decide) ?_
      exact zs_zret (pc := 17) C hr hlk dX4_has_17 (by omega) ⟨rfl, by first | omega | (simp only [zuI_1, zuI_2, zuJ_1, zuJ_2, zuJ_3, zuP_1, zuP_2, zuP_3, zuC_1, zuC_2, reduceIte, Nat.reduceEqDiff, false_and, and_false, true_and, and_true, and_self, or_true, true_or, or_false, false_or]; omega)⟩

set_option maxHeartbeats 4000000 in
set_option maxRecDepth 100000 in
theorem c_X4_isFull {l : Launch} {Γ : zΓ} {G : zH} {w : Nat} (hX : zXs Γ)  : zMet l Γ yX4_isFull cX4_isFull 1 (some .boolean) 0 [zr 5 w] G (zpi (fun x G' => G' = G ∧ ((x = 0 ∨ x = 1) ∧ (x = 1 ↔ 60 ≤ G.1 510 w 0)))) := by
  refine zMet_of RX4 hX (by decide) rfl (Nat.le_of_ble_eq_true rfl) ?_
  intro p e s m args below meth c C hr hlk
  show Z p l e (zrm 0) s m args below meth c Γ 1 0 0 (MQ below (zQc Γ (zpi (fun x G' => G' = G ∧ ((x = 0 ∨ x = 1) ∧ (x = 1 ↔ 60 ≤ G.1 510 w 0))))) args s 0 0 (zA Γ)) 0 [some (zr 5 w)] [] G
  refine zs_aload_n (pc := 0) C dX4_isFull_0 rfl ?_
  refine zs_geti (r := 510) (pc := 1) C dX4_isFull_1 w_X4_42 f_5_10 rfl (r_510 0) (fun v1 e1 l1 u1 => ?_)
  refine zs_bipush (pc := 4) C dX4_isFull_4 (by decide) (by decide) ?_
  refine zs_icmp_lt (tgt := 13) (pc := 6) C dX4_isFull_6 (by decide) (fun h6 => ?_) (fun h6 => ?_)
  · skip
    refine zs_iconst (pc := 13) C dX4_isFull_13 (by decide) ?_
    exact zs_zret (pc := 14) C hr hlk dX4_isFull_14 (by omega) ⟨rfl, by first | omega | (simp only [zuI_1, zuI_2, zuJ_1, zuJ_2, zuJ_3, zuP_1, zuP_2, zuP_3, zuC_1, zuC_2, reduceIte, Nat.reduceEqDiff, false_and, and_false, true_and, and_true, and_self, or_true, true_or, or_false, false_or]; omega)⟩
  · skip
    refine zs_iconst (pc := 9) C dX4_isFull_9 (by decide) ?_
    refine zs_goto (tgt := 14) (pc := 10) C dX4_isFull_10 (by decide) ?_
    exact zs_zret (pc := 14) C hr hlk dX4_isFull_14 (by omega) ⟨rfl, by first | omega | (simp only [zuI_1, zuI_2, zuJ_1, zuJ_2, zuJ_3, zuP_1, zuP_2, zuP_3, zuC_1, zuC_2, reduceIte, Nat.reduceEqDiff, false_and, and_false, true_and, and_true, and_self, or_true, true_or, or_false, false_or]; omega)⟩

set_option maxHeartbeats 4000000 in
set_option maxRecDepth 100000 in
theorem c_X4_lieBy {l : Launch} {Γ : zΓ} {G : zH} {w : Nat} {k sn : Int} (hX : zXs Γ) (hk : 0 ≤ k ∧ k < 60) : zMet l Γ yX4_lieBy cX4_lieBy 3 (some .int) 0 [zr 5 w, zi k, zi sn] G (zpi (fun x G' => G' = G ∧ (x = 0 ∨ x = 1))) := by
  refine zMet_of RX4 hX (by decide) rfl (Nat.le_of_ble_eq_true rfl) ?_
  intro p e s m args below meth c C hr hlk
  show Z p l e (zrm 0) s m args below meth c Γ 3 0 0 (MQ below (zQc Γ (zpi (fun x G' => G' = G ∧ (x = 0 ∨ x = 1)))) args s 0 0 (zA Γ)) 0 [some (zr 5 w), some (zi k), some (zi sn)] [] G
  refine zs_loc 1 rfl (fun ha1 hb1 => ?_)
  refine zs_loc 2 rfl (fun ha2 hb2 => ?_)
  refine zs_aload_n (pc := 0) C dX4_lieBy_0 rfl ?_
  refine zs_getf (pc := 1) C dX4_lieBy_1 w_X4_39 f_5_9 (by decide) ?_
  refine zs_iload_n (pc := 4) C dX4_lieBy_4 rfl ?_
  refine zs_iald (r := 2035) (pc := 5) C dX4_lieBy_5 a_35 (by decide) (by omega) rfl (r_2035 _) (fun v5 e5 l5 u5 => ?_)
  refine zs_iload_n (pc := 6) C dX4_lieBy_6 rfl ?_
  refine zs_ishrF (pc := 7) C dX4_lieBy_7 (fun z7 hz71 hz72 => ?_)
  refine zs_iconst (pc := 8) C dX4_lieBy_8 (by decide) ?_
  first | refine zs_iand (pc := 9) C 1 dX4_lieBy_9 (by decide) (by decide) (fun z9 hz91 hz92 => ?_) | refine zs_iand (pc := 9) C 2 dX4_lieBy_9 (by decide) (by decide) (fun z9 hz91 hz92 => ?_) | refine zs_iand (pc := 9) C 8 dX4_lieBy_9 (by decide) (by decide) (fun z9 hz91 hz92 => ?_) | refine zs_iandF (pc := 9) C dX4_lieBy_9 (fun z9 hz91 hz92 => ?_)
  refine zs_if_ne (tgt := 17) (pc := 10) C dX4_lieBy_10 (by decide) (fun h10 => ?_) (fun h10 => ?_)
  · skip
    refine zs_iconst (pc := 17) C dX4_lieBy_17 (by decide) ?_
    exact zs_iret (pc := 18) C hr hlk dX4_lieBy_18 ⟨rfl, by first | omega | (simp only [zuI_1, zuI_2, zuJ_1, zuJ_2, zuJ_3, zuP_1, zuP_2, zuP_3, zuC_1, zuC_2, reduceIte, Nat.reduceEqDiff, false_and, and_false, true_and, and_true, and_self, or_true, true_or, or_false, false_or]; omega)⟩
  · skip
    refine zs_iconst (pc := 13) C dX4_lieBy_13 (by decide) ?_
    refine zs_goto (tgt := 18) (pc := 14) C dX4_lieBy_14 (by decide) ?_
    exact zs_iret (pc := 18) C hr hlk dX4_lieBy_18 ⟨rfl, by first | omega | (simp only [zuI_1, zuI_2, zuJ_1, zuJ_2, zuJ_3, zuP_1, zuP_2, zuP_3, zuC_1, zuC_2, reduceIte, Nat.reduceEqDiff, false_and, and_false, true_and, and_true, and_self, or_true, true_or, or_false, false_or]; omega)⟩

set_option maxHeartbeats 4000000 in
set_option maxRecDepth 100000 in
theorem c_X4_flourFrom {l : Launch} {Γ : zΓ} {G : zH} {w : Nat} {q : Int} (hX : zXs Γ)  : zMet l Γ yX4_flourFrom cX4_flourFrom 4 (some .int) 0 [zr 5 w, zi q] G (zpi (fun x G' => G' = G ∧ True)) := by
  refine zMet_of RX4 hX (by decide) rfl (Nat.le_of_ble_eq_true rfl) ?_
  intro p e s m args below meth c C hr hlk
  show Z p l e (zrm 0) s m args below meth c Γ 4 0 0 (MQ below (zQc Γ (zpi (fun x G' => G' = G ∧ True))) args s 0 0 (zA Γ)) 0 [some (zr 5 w), some (zi q), none, none] [] G
  refine zs_loc 1 rfl (fun ha1 hb1 => ?_)
  refine zs_iconst (pc := 0) C dX4_flourFrom_0 (by decide) ?_
  refine zs_istore_n (pc := 1) C dX4_flourFrom_1 (by decide) ?_
  dsimp only [zset, zclr, znone]
  refine zs_iconst (pc := 2) C dX4_flourFrom_2 (by decide) ?_
  refine zs_istore_n (pc := 3) C dX4_flourFrom_3 (by decide) ?_
  dsimp only [zset, zclr, znone]
  have L4 : ∀ (nn : Nat) (x2 x3 : Int), (0 ≤ x3 ∧ x3 ≤ 60) → (60 - x3).toNat < nn → Z p l e (zrm 0) s m args below meth c Γ 4 0 0 (MQ below (zQc Γ (zpi (fun x G' => G' = G ∧ True))) args s 0 0 (zA Γ)) 4 [some (zr 5 w), some (zi q), some (zi x2), some (zi x3)] [] G := by
    intro nn
    induction nn with
    | zero => intro x2 x3 h4_0 hm; exact absurd hm (Nat.not_lt_zero _)
    | succ nn ih4 =>
      intro x2 x3 h4_0 hm4
      refine zs_iload_n (pc := 4) C dX4_flourFrom_4 rfl ?_
      refine zs_aload_n (pc := 5) C dX4_flourFrom_5 rfl ?_
      refine zs_geti (r := 510) (pc := 6) C dX4_flourFrom_6 w_X4_42 f_5_10 rfl (r_510 0) (fun v6 e6 l6 u6 => ?_)
      refine zs_icmp_ge (tgt := 41) (pc := 9) C dX4_flourFrom_9 (by decide) (fun h9 => ?_) (fun h9 => ?_)
      · skip
        refine zs_iload_n (pc := 41) C dX4_flourFrom_41 rfl ?_
        exact zs_iret (pc := 42) C hr hlk dX4_flourFrom_42 ⟨rfl, trivial⟩
      · skip
        refine zs_iload_n (pc := 12) C dX4_flourFrom_12 rfl ?_
        refine zs_aload_n (pc := 13) C dX4_flourFrom_13 rfl ?_
        refine zs_getf (pc := 14) C dX4_flourFrom_14 w_X4_18 f_5_2 (by decide) ?_
        refine zs_iload_n (pc := 17) C dX4_flourFrom_17 rfl ?_
        refine zs_iald (r := 2028) (pc := 18) C dX4_flourFrom_18 a_28 (by decide) (by omega) rfl (r_2028 _) (fun v18 e18 l18 u18 => ?_)
        refine zs_iload_n (pc := 19) C dX4_flourFrom_19 rfl ?_
        refine zs_icmp_lt (tgt := 32) (pc := 20) C dX4_flourFrom_20 (by decide) (fun h20 => ?_) (fun h20 => ?_)
        · skip
          refine zs_iconst (pc := 32) C dX4_flourFrom_32 (by decide) ?_
          first | refine zs_iadd (pc := 33) C dX4_flourFrom_33 (by omega) ?_ | refine zs_iaddF (pc := 33) C dX4_flourFrom_33 (fun z33 hz331 hz332 => ?_)
          refine zs_istore_n (pc := 34) C dX4_flourFrom_34 (by decide) ?_
          dsimp only [zset, zclr, znone]
          first | refine zs_iinc (pc := 35) C dX4_flourFrom_35 rfl (by decide) (by omega) ?_ | refine zs_iincF (pc := 35) C dX4_flourFrom_35 rfl (by decide) (fun z35 hz351 hz352 => ?_)
          dsimp only [zset, zclr, znone]
          refine zs_goto (tgt := 4) (pc := 38) C dX4_flourFrom_38 (by decide) ?_
          exact zs_wk (ih4 _ _ (by first | omega | (simp only [zuI_1, zuI_2, zuJ_1, zuJ_2, zuJ_3, zuP_1, zuP_2, zuP_3, zuC_1, zuC_2, reduceIte, Nat.reduceEqDiff, false_and, and_false, true_and, and_true, and_self, or_true, true_or, or_false, false_or]; omega)) (by first | omega | (simp only [zuI_1, zuI_2, zuJ_1, zuJ_2, zuJ_3, zuP_1, zuP_2, zuP_3, zuC_1, zuC_2, reduceIte, Nat.reduceEqDiff, false_and, and_false, true_and, and_true, and_self, or_true, true_or, or_false, false_or]; omega))) (zwk_s rfl (zwk_s rfl (zwk_s rfl (zwk_s rfl zwk_0))))
        · skip
          refine zs_aload_n (pc := 23) C dX4_flourFrom_23 rfl ?_
          refine zs_getf (pc := 24) C dX4_flourFrom_24 w_X4_24 f_5_4 (by decide) ?_
          refine zs_iload_n (pc := 27) C dX4_flourFrom_27 rfl ?_
          refine zs_iald (r := 2030) (pc := 28) C dX4_flourFrom_28 a_30 (by decide) (by omega) rfl (r_2030 _) (fun v28 e28 l28 u28 => ?_)
          refine zs_goto (tgt := 33) (pc := 29) C dX4_flourFrom_29 (by decide) ?_
          first | refine zs_iadd (pc := 33) C dX4_flourFrom_33 (by omega) ?_ | refine zs_iaddF (pc := 33) C dX4_flourFrom_33 (fun z33 hz331 hz332 => ?_)
          refine zs_istore_n (pc := 34) C dX4_flourFrom_34 (by decide) ?_
          dsimp only [zset, zclr, znone]
          first | refine zs_iinc (pc := 35) C dX4_flourFrom_35 rfl (by decide) (by omega) ?_ | refine zs_iincF (pc := 35) C dX4_flourFrom_35 rfl (by decide) (fun z35 hz351 hz352 => ?_)
          dsimp only [zset, zclr, znone]
          refine zs_goto (tgt := 4) (pc := 38) C dX4_flourFrom_38 (by decide) ?_
          exact zs_wk (ih4 _ _ (by first | omega | (simp only [zuI_1, zuI_2, zuJ_1, zuJ_2, zuJ_3, zuP_1, zuP_2, zuP_3, zuC_1, zuC_2, reduceIte, Nat.reduceEqDiff, false_and, and_false, true_and, and_true, and_self, or_true, true_or, or_false, false_or]; omega)) (by first | omega | (simp only [zuI_1, zuI_2, zuJ_1, zuJ_2, zuJ_3, zuP_1, zuP_2, zuP_3, zuC_1, zuC_2, reduceIte, Nat.reduceEqDiff, false_and, and_false, true_and, and_true, and_self, or_true, true_or, or_false, false_or]; omega))) (zwk_s rfl (zwk_s rfl (zwk_s rfl (zwk_s rfl zwk_0))))
  exact zs_wk (L4 _ _ _ (by first | omega | (simp only [zuI_1, zuI_2, zuJ_1, zuJ_2, zuJ_3, zuP_1, zuP_2, zuP_3, zuC_1, zuC_2, reduceIte, Nat.reduceEqDiff, false_and, and_false, true_and, and_true, and_self, or_true, true_or, or_false, false_or]; omega)) (Nat.lt_succ_self _)) (zwk_s rfl (zwk_s rfl (zwk_s rfl (zwk_s rfl zwk_0))))

set_option maxHeartbeats 4000000 in
set_option maxRecDepth 100000 in
theorem c_X4_coarsestFrom {l : Launch} {Γ : zΓ} {G : zH} {w : Nat} {q : Int} (hX : zXs Γ)  : zMet l Γ yX4_coarsestFrom cX4_coarsestFrom 4 (some .int) 0 [zr 5 w, zi q] G (zpi (fun x G' => G' = G ∧ (-1 ≤ x ∧ x < 60))) := by
  refine zMet_of RX4 hX (by decide) rfl (Nat.le_of_ble_eq_true rfl) ?_
  intro p e s m args below meth c C hr hlk
  show Z p l e (zrm 0) s m args below meth c Γ 4 0 0 (MQ below (zQc Γ (zpi (fun x G' => G' = G ∧ (-1 ≤ x ∧ x < 60)))) args s 0 0 (zA Γ)) 0 [some (zr 5 w), some (zi q), none, none] [] G
  refine zs_loc 1 rfl (fun ha1 hb1 => ?_)
  refine zs_iconst (pc := 0) C dX4_coarsestFrom_0 (by decide) ?_
  refine zs_istore_n (pc := 1) C dX4_coarsestFrom_1 (by decide) ?_
  dsimp only [zset, zclr, znone]
  refine zs_iconst (pc := 2) C dX4_coarsestFrom_2 (by decide) ?_
  refine zs_istore_n (pc := 3) C dX4_coarsestFrom_3 (by decide) ?_
  dsimp only [zset, zclr, znone]
  have L4 : ∀ (nn : Nat) (x2 x3 : Int), (0 ≤ x3 ∧ x3 ≤ 60) → (-1 ≤ x2 ∧ x2 < 60) → (60 - x3).toNat < nn → Z p l e (zrm 0) s m args below meth c Γ 4 0 0 (MQ below (zQc Γ (zpi (fun x G' => G' = G ∧ (-1 ≤ x ∧ x < 60)))) args s 0 0 (zA Γ)) 4 [some (zr 5 w), some (zi q), some (zi x2), some (zi x3)] [] G := by
    intro nn
    induction nn with
    | zero => intro x2 x3 h4_0 h4_1 hm; exact absurd hm (Nat.not_lt_zero _)
    | succ nn ih4 =>
      intro x2 x3 h4_0 h4_1 hm4
      refine zs_iload_n (pc := 4) C dX4_coarsestFrom_4 rfl ?_
      refine zs_aload_n (pc := 5) C dX4_coarsestFrom_5 rfl ?_
      refine zs_geti (r := 510) (pc := 6) C dX4_coarsestFrom_6 w_X4_42 f_5_10 rfl (r_510 0) (fun v6 e6 l6 u6 => ?_)
      refine zs_icmp_ge (tgt := 59) (pc := 9) C dX4_coarsestFrom_9 (by decide) (fun h9 => ?_) (fun h9 => ?_)
      · skip
        refine zs_iload_n (pc := 59) C dX4_coarsestFrom_59 rfl ?_
        exact zs_iret (pc := 60) C hr hlk dX4_coarsestFrom_60 ⟨rfl, by first | omega | (simp only [zuI_1, zuI_2, zuJ_1, zuJ_2, zuJ_3, zuP_1, zuP_2, zuP_3, zuC_1, zuC_2, reduceIte, Nat.reduceEqDiff, false_and, and_false, true_and, and_true, and_self, or_true, true_or, or_false, false_or]; omega)⟩
      · skip
        refine zs_aload_n (pc := 12) C dX4_coarsestFrom_12 rfl ?_
        refine zs_getf (pc := 13) C dX4_coarsestFrom_13 w_X4_24 f_5_4 (by decide) ?_
        refine zs_iload_n (pc := 16) C dX4_coarsestFrom_16 rfl ?_
        refine zs_iald (r := 2030) (pc := 17) C dX4_coarsestFrom_17 a_30 (by decide) (by omega) rfl (r_2030 _) (fun v17 e17 l17 u17 => ?_)
        refine zs_if_le (tgt := 53) (pc := 18) C dX4_coarsestFrom_18 (by decide) (fun h18 => ?_) (fun h18 => ?_)
        · skip
          first | refine zs_iinc (pc := 53) C dX4_coarsestFrom_53 rfl (by decide) (by omega) ?_ | refine zs_iincF (pc := 53) C dX4_coarsestFrom_53 rfl (by decide) (fun z53 hz531 hz532 => ?_)
          dsimp only [zset, zclr, znone]
          refine zs_goto (tgt := 4) (pc := 56) C dX4_coarsestFrom_56 (by decide) ?_
          exact zs_wk (ih4 _ _ (by first | omega | (simp only [zuI_1, zuI_2, zuJ_1, zuJ_2, zuJ_3, zuP_1, zuP_2, zuP_3, zuC_1, zuC_2, reduceIte, Nat.reduceEqDiff, false_and, and_false, true_and, and_true, and_self, or_true, true_or, or_false, false_or]; omega)) (by first | omega | (simp only [zuI_1, zuI_2, zuJ_1, zuJ_2, zuJ_3, zuP_1, zuP_2, zuP_3, zuC_1, zuC_2, reduceIte, Nat.reduceEqDiff, false_and, and_false, true_and, and_true, and_self, or_true, true_or, or_false, false_or]; omega)) (by first | omega | (simp only [zuI_1, zuI_2, zuJ_1, zuJ_2, zuJ_3, zuP_1, zuP_2, zuP_3, zuC_1, zuC_2, reduceIte, Nat.reduceEqDiff, false_and, and_false, true_and, and_true, and_self, or_true, true_or, or_false, false_or]; omega))) (zwk_s rfl (zwk_s rfl (zwk_s rfl (zwk_s rfl zwk_0))))
        · skip
          refine zs_aload_n (pc := 21) C dX4_coarsestFrom_21 rfl ?_
          refine zs_getf (pc := 22) C dX4_coarsestFrom_22 w_X4_18 f_5_2 (by decide) ?_
          refine zs_iload_n (pc := 25) C dX4_coarsestFrom_25 rfl ?_
          refine zs_iald (r := 2028) (pc := 26) C dX4_coarsestFrom_26 a_28 (by decide) (by omega) rfl (r_2028 _) (fun v26 e26 l26 u26 => ?_)
          refine zs_iload_n (pc := 27) C dX4_coarsestFrom_27 rfl ?_
          refine zs_icmp_lt (tgt := 53) (pc := 28) C dX4_coarsestFrom_28 (by decide) (fun h28 => ?_) (fun h28 => ?_)
          · skip
            first | refine zs_iinc (pc := 53) C dX4_coarsestFrom_53 rfl (by decide) (by omega) ?_ | refine zs_iincF (pc := 53) C dX4_coarsestFrom_53 rfl (by decide) (fun z53 hz531 hz532 => ?_)
            dsimp only [zset, zclr, znone]
            refine zs_goto (tgt := 4) (pc := 56) C dX4_coarsestFrom_56 (by decide) ?_
            exact zs_wk (ih4 _ _ (by first | omega | (simp only [zuI_1, zuI_2, zuJ_1, zuJ_2, zuJ_3, zuP_1, zuP_2, zuP_3, zuC_1, zuC_2, reduceIte, Nat.reduceEqDiff, false_and, and_false, true_and, and_true, and_self, or_true, true_or, or_false, false_or]; omega)) (by first | omega | (simp only [zuI_1, zuI_2, zuJ_1, zuJ_2, zuJ_3, zuP_1, zuP_2, zuP_3, zuC_1, zuC_2, reduceIte, Nat.reduceEqDiff, false_and, and_false, true_and, and_true, and_self, or_true, true_or, or_false, false_or]; omega)) (by first | omega | (simp only [zuI_1, zuI_2, zuJ_1, zuJ_2, zuJ_3, zuP_1, zuP_2, zuP_3, zuC_1, zuC_2, reduceIte, Nat.reduceEqDiff, false_and, and_false, true_and, and_true, and_self, or_true, true_or, or_false, false_or]; omega))) (zwk_s rfl (zwk_s rfl (zwk_s rfl (zwk_s rfl zwk_0))))
          · skip
            refine zs_iload_n (pc := 31) C dX4_coarsestFrom_31 rfl ?_
            refine zs_iconst (pc := 32) C dX4_coarsestFrom_32 (by decide) ?_
            refine zs_icmp_eq (tgt := 51) (pc := 33) C dX4_coarsestFrom_33 (by decide) (fun h33 => ?_) (fun h33 => ?_)
            · skip
              refine zs_iload_n (pc := 51) C dX4_coarsestFrom_51 rfl ?_
              refine zs_istore_n (pc := 52) C dX4_coarsestFrom_52 (by decide) ?_
              dsimp only [zset, zclr, znone]
              first | refine zs_iinc (pc := 53) C dX4_coarsestFrom_53 rfl (by decide) (by omega) ?_ | refine zs_iincF (pc := 53) C dX4_coarsestFrom_53 rfl (by decide) (fun z53 hz531 hz532 => ?_)
              dsimp only [zset, zclr, znone]
              refine zs_goto (tgt := 4) (pc := 56) C dX4_coarsestFrom_56 (by decide) ?_
              exact zs_wk (ih4 _ _ (by first | omega | (simp only [zuI_1, zuI_2, zuJ_1, zuJ_2, zuJ_3, zuP_1, zuP_2, zuP_3, zuC_1, zuC_2, reduceIte, Nat.reduceEqDiff, false_and, and_false, true_and, and_true, and_self, or_true, true_or, or_false, false_or]; omega)) (by first | omega | (simp only [zuI_1, zuI_2, zuJ_1, zuJ_2, zuJ_3, zuP_1, zuP_2, zuP_3, zuC_1, zuC_2, reduceIte, Nat.reduceEqDiff, false_and, and_false, true_and, and_true, and_self, or_true, true_or, or_false, false_or]; omega)) (by first | omega | (simp only [zuI_1, zuI_2, zuJ_1, zuJ_2, zuJ_3, zuP_1, zuP_2, zuP_3, zuC_1, zuC_2, reduceIte, Nat.reduceEqDiff, false_and, and_false, true_and, and_true, and_self, or_true, true_or, or_false, false_or]; omega))) (zwk_s rfl (zwk_s rfl (zwk_s rfl (zwk_s rfl zwk_0))))
            · skip
              refine zs_aload_n (pc := 36) C dX4_coarsestFrom_36 rfl ?_
              refine zs_getf (pc := 37) C dX4_coarsestFrom_37 w_X4_18 f_5_2 (by decide) ?_
              refine zs_iload_n (pc := 40) C dX4_coarsestFrom_40 rfl ?_
              refine zs_iald (r := 2028) (pc := 41) C dX4_coarsestFrom_41 a_28 (by decide) (by omega) rfl (r_2028 _) (fun v41 e41 l41 u41 => ?_)
              refine zs_aload_n (pc := 42) C dX4_coarsestFrom_42 rfl ?_
              refine zs_getf (pc := 43) C dX4_coarsestFrom_43 w_X4_18 f_5_2 (by decide) ?_
              refine zs_iload_n (pc := 46) C dX4_coarsestFrom_46 rfl ?_
              refine zs_iald (r := 2028) (pc := 47) C dX4_coarsestFrom_47 a_28 (by decide) (by omega) rfl (r_2028 _) (fun v47 e47 l47 u47 => ?_)
              refine zs_icmp_ge (tgt := 53) (pc := 48) C dX4_coarsestFrom_48 (by decide) (fun h48 => ?_) (fun h48 => ?_)
              · skip
                first | refine zs_iinc (pc := 53) C dX4_coarsestFrom_53 rfl (by decide) (by omega) ?_ | refine zs_iincF (pc := 53) C dX4_coarsestFrom_53 rfl (by decide) (fun z53 hz531 hz532 => ?_)
                dsimp only [zset, zclr, znone]
                refine zs_goto (tgt := 4) (pc := 56) C dX4_coarsestFrom_56 (by decide) ?_
                exact zs_wk (ih4 _ _ (by first | omega | (simp only [zuI_1, zuI_2, zuJ_1, zuJ_2, zuJ_3, zuP_1, zuP_2, zuP_3, zuC_1, zuC_2, reduceIte, Nat.reduceEqDiff, false_and, and_false, true_and, and_true, and_self, or_true, true_or, or_false, false_or]; omega)) (by first | omega | (simp only [zuI_1, zuI_2, zuJ_1, zuJ_2, zuJ_3, zuP_1, zuP_2, zuP_3, zuC_1, zuC_2, reduceIte, Nat.reduceEqDiff, false_and, and_false, true_and, and_true, and_self, or_true, true_or, or_false, false_or]; omega)) (by first | omega | (simp only [zuI_1, zuI_2, zuJ_1, zuJ_2, zuJ_3, zuP_1, zuP_2, zuP_3, zuC_1, zuC_2, reduceIte, Nat.reduceEqDiff, false_and, and_false, true_and, and_true, and_self, or_true, true_or, or_false, false_or]; omega))) (zwk_s rfl (zwk_s rfl (zwk_s rfl (zwk_s rfl zwk_0))))
              · skip
                refine zs_iload_n (pc := 51) C dX4_coarsestFrom_51 rfl ?_
                refine zs_istore_n (pc := 52) C dX4_coarsestFrom_52 (by decide) ?_
                dsimp only [zset, zclr, znone]
                first | refine zs_iinc (pc := 53) C dX4_coarsestFrom_53 rfl (by decide) (by omega) ?_ | refine zs_iincF (pc := 53) C dX4_coarsestFrom_53 rfl (by decide) (fun z53 hz531 hz532 => ?_)
                dsimp only [zset, zclr, znone]
                refine zs_goto (tgt := 4) (pc := 56) C dX4_coarsestFrom_56 (by decide) ?_
                exact zs_wk (ih4 _ _ (by first | omega | (simp only [zuI_1, zuI_2, zuJ_1, zuJ_2, zuJ_3, zuP_1, zuP_2, zuP_3, zuC_1, zuC_2, reduceIte, Nat.reduceEqDiff, false_and, and_false, true_and, and_true, and_self, or_true, true_or, or_false, false_or]; omega)) (by first | omega | (simp only [zuI_1, zuI_2, zuJ_1, zuJ_2, zuJ_3, zuP_1, zuP_2, zuP_3, zuC_1, zuC_2, reduceIte, Nat.reduceEqDiff, false_and, and_false, true_and, and_true, and_self, or_true, true_or, or_false, false_or]; omega)) (by first | omega | (simp only [zuI_1, zuI_2, zuJ_1, zuJ_2, zuJ_3, zuP_1, zuP_2, zuP_3, zuC_1, zuC_2, reduceIte, Nat.reduceEqDiff, false_and, and_false, true_and, and_true, and_self, or_true, true_or, or_false, false_or]; omega))) (zwk_s rfl (zwk_s rfl (zwk_s rfl (zwk_s rfl zwk_0))))
  exact zs_wk (L4 _ _ _ (by first | omega | (simp only [zuI_1, zuI_2, zuJ_1, zuJ_2, zuJ_3, zuP_1, zuP_2, zuP_3, zuC_1, zuC_2, reduceIte, Nat.reduceEqDiff, false_and, and_false, true_and, and_true, and_self, or_true, true_or, or_false, false_or]; omega)) (by first | omega | (simp only [zuI_1, zuI_2, zuJ_1, zuJ_2, zuJ_3, zuP_1, zuP_2, zuP_3, zuC_1, zuC_2, reduceIte, Nat.reduceEqDiff, false_and, and_false, true_and, and_true, and_self, or_true, true_or, or_false, false_or]; omega)) (Nat.lt_succ_self _)) (zwk_s rfl (zwk_s rfl (zwk_s rfl (zwk_s rfl zwk_0))))

set_option maxHeartbeats 4000000 in
set_option maxRecDepth 100000 in
theorem c_X4_copyFrom {l : Launch} {Γ : zΓ} {G : zH} {w w2 : Nat} (hX : zXs Γ)  : zMet l Γ yX4_copyFrom cX4_copyFrom 2 none 1 [zr 5 w, zr 5 w2] G (zpv (fun G' => zsm [510, 2026, 2027, 2028, 2029, 2030, 2031, 2032, 2033, 2034, 2035] G G' ∧ True)) := by
  refine zMet_of RX4 hX (by decide) rfl (Nat.le_of_ble_eq_true rfl) ?_
  intro p e s m args below meth c C hr hlk
  show Z p l e (zrm 1) s m args below meth c Γ 2 0 0 (MQ below (zQc Γ (zpv (fun G' => zsm [510, 2026, 2027, 2028, 2029, 2030, 2031, 2032, 2033, 2034, 2035] G G' ∧ True))) args s 0 0 (zA Γ)) 0 [some (zr 5 w), some (zr 5 w2)] [] G
  refine zs_aload_n (pc := 0) C dX4_copyFrom_0 rfl ?_
  refine zs_aload_n (pc := 1) C dX4_copyFrom_1 rfl ?_
  refine zs_geti (r := 510) (pc := 2) C dX4_copyFrom_2 w_X4_42 f_5_10 rfl (r_510 0) (fun v2 e2 l2 u2 => ?_)
  refine zs_puti (r := 510) (pc := 5) C dX4_copyFrom_5 w_X4_42 f_5_10 rfl (r_510 0) (by omega) ?_
  refine zs_aload_n (pc := 8) C dX4_copyFrom_8 rfl ?_
  refine zs_getf (pc := 9) C dX4_copyFrom_9 w_X4_9 f_5_0 (by decide) ?_
  refine zs_iconst (pc := 12) C dX4_copyFrom_12 (by decide) ?_
  refine zs_aload_n (pc := 13) C dX4_copyFrom_13 rfl ?_
  refine zs_getf (pc := 14) C dX4_copyFrom_14 w_X4_9 f_5_0 (by decide) ?_
  refine zs_iconst (pc := 17) C dX4_copyFrom_17 (by decide) ?_
  refine zs_bipush (pc := 18) C dX4_copyFrom_18 (by decide) (by decide) ?_
  refine zs_acopy (r0 := 2026) (r1 := 2026) (pc := 20) C dX4_copyFrom_20 ac_X4_46 a_26 a_26 (by decide) (by decide) (by omega) (by omega) (by omega) (by omega) (by omega) rfl rfl (fun i j => Or.inl (by rw [r_2026, r_2026]; decide)) (by decide) (Nat.le_of_ble_eq_true rfl) ?_
  refine zs_aload_n (pc := 23) C dX4_copyFrom_23 rfl ?_
  refine zs_getf (pc := 24) C dX4_copyFrom_24 w_X4_15 f_5_1 (by decide) ?_
  refine zs_iconst (pc := 27) C dX4_copyFrom_27 (by decide) ?_
  refine zs_aload_n (pc := 28) C dX4_copyFrom_28 rfl ?_
  refine zs_getf (pc := 29) C dX4_copyFrom_29 w_X4_15 f_5_1 (by decide) ?_
  refine zs_iconst (pc := 32) C dX4_copyFrom_32 (by decide) ?_
  refine zs_bipush (pc := 33) C dX4_copyFrom_33 (by decide) (by decide) ?_
  refine zs_acopy (r0 := 2027) (r1 := 2027) (pc := 35) C dX4_copyFrom_35 ac_X4_46 a_27 a_27 (by decide) (by decide) (by omega) (by omega) (by omega) (by omega) (by omega) rfl rfl (fun i j => Or.inl (by rw [r_2027, r_2027]; decide)) (by decide) (Nat.le_of_ble_eq_true rfl) ?_
  refine zs_aload_n (pc := 38) C dX4_copyFrom_38 rfl ?_
  refine zs_getf (pc := 39) C dX4_copyFrom_39 w_X4_18 f_5_2 (by decide) ?_
  refine zs_iconst (pc := 42) C dX4_copyFrom_42 (by decide) ?_
  refine zs_aload_n (pc := 43) C dX4_copyFrom_43 rfl ?_
  refine zs_getf (pc := 44) C dX4_copyFrom_44 w_X4_18 f_5_2 (by decide) ?_
  refine zs_iconst (pc := 47) C dX4_copyFrom_47 (by decide) ?_
  refine zs_bipush (pc := 48) C dX4_copyFrom_48 (by decide) (by decide) ?_
  refine zs_acopy (r0 := 2028) (r1 := 2028) (pc := 50) C dX4_copyFrom_50 ac_X4_46 a_28 a_28 (by decide) (by decide) (by omega) (by omega) (by omega) (by omega) (by omega) rfl rfl (fun i j => Or.inl (by rw [r_2028, r_2028]; decide)) (by decide) (Nat.le_of_ble_eq_true rfl) ?_
  refine zs_aload_n (pc := 53) C dX4_copyFrom_53 rfl ?_
  refine zs_getf (pc := 54) C dX4_copyFrom_54 w_X4_21 f_5_3 (by decide) ?_
  refine zs_iconst (pc := 57) C dX4_copyFrom_57 (by decide) ?_
  refine zs_aload_n (pc := 58) C dX4_copyFrom_58 rfl ?_
  refine zs_getf (pc := 59) C dX4_copyFrom_59 w_X4_21 f_5_3 (by decide) ?_
  refine zs_iconst (pc := 62) C dX4_copyFrom_62 (by decide) ?_
  refine zs_bipush (pc := 63) C dX4_copyFrom_63 (by decide) (by decide) ?_
  refine zs_acopy (r0 := 2029) (r1 := 2029) (pc := 65) C dX4_copyFrom_65 ac_X4_46 a_29 a_29 (by decide) (by decide) (by omega) (by omega) (by omega) (by omega) (by omega) rfl rfl (fun i j => Or.inl (by rw [r_2029, r_2029]; decide)) (by decide) (Nat.le_of_ble_eq_true rfl) ?_
  refine zs_aload_n (pc := 68) C dX4_copyFrom_68 rfl ?_
  refine zs_getf (pc := 69) C dX4_copyFrom_69 w_X4_24 f_5_4 (by decide) ?_
  refine zs_iconst (pc := 72) C dX4_copyFrom_72 (by decide) ?_
  refine zs_aload_n (pc := 73) C dX4_copyFrom_73 rfl ?_
  refine zs_getf (pc := 74) C dX4_copyFrom_74 w_X4_24 f_5_4 (by decide) ?_
  refine zs_iconst (pc := 77) C dX4_copyFrom_77 (by decide) ?_
  refine zs_bipush (pc := 78) C dX4_copyFrom_78 (by decide) (by decide) ?_
  refine zs_acopy (r0 := 2030) (r1 := 2030) (pc := 80) C dX4_copyFrom_80 ac_X4_46 a_30 a_30 (by decide) (by decide) (by omega) (by omega) (by omega) (by omega) (by omega) rfl rfl (fun i j => Or.inl (by rw [r_2030, r_2030]; decide)) (by decide) (Nat.le_of_ble_eq_true rfl) ?_
  refine zs_aload_n (pc := 83) C dX4_copyFrom_83 rfl ?_
  refine zs_getf (pc := 84) C dX4_copyFrom_84 w_X4_27 f_5_5 (by decide) ?_
  refine zs_iconst (pc := 87) C dX4_copyFrom_87 (by decide) ?_
  refine zs_aload_n (pc := 88) C dX4_copyFrom_88 rfl ?_
  refine zs_getf (pc := 89) C dX4_copyFrom_89 w_X4_27 f_5_5 (by decide) ?_
  refine zs_iconst (pc := 92) C dX4_copyFrom_92 (by decide) ?_
  refine zs_bipush (pc := 93) C dX4_copyFrom_93 (by decide) (by decide) ?_
  refine zs_acopy (r0 := 2031) (r1 := 2031) (pc := 95) C dX4_copyFrom_95 ac_X4_46 a_31 a_31 (by decide) (by decide) (by omega) (by omega) (by omega) (by omega) (by omega) rfl rfl (fun i j => Or.inl (by rw [r_2031, r_2031]; decide)) (by decide) (Nat.le_of_ble_eq_true rfl) ?_
  refine zs_aload_n (pc := 98) C dX4_copyFrom_98 rfl ?_
  refine zs_getf (pc := 99) C dX4_copyFrom_99 w_X4_30 f_5_6 (by decide) ?_
  refine zs_iconst (pc := 102) C dX4_copyFrom_102 (by decide) ?_
  refine zs_aload_n (pc := 103) C dX4_copyFrom_103 rfl ?_
  refine zs_getf (pc := 104) C dX4_copyFrom_104 w_X4_30 f_5_6 (by decide) ?_
  refine zs_iconst (pc := 107) C dX4_copyFrom_107 (by decide) ?_
  refine zs_bipush (pc := 108) C dX4_copyFrom_108 (by decide) (by decide) ?_
  refine zs_acopy (r0 := 2032) (r1 := 2032) (pc := 110) C dX4_copyFrom_110 ac_X4_46 a_32 a_32 (by decide) (by decide) (by omega) (by omega) (by omega) (by omega) (by omega) rfl rfl (fun i j => Or.inl (by rw [r_2032, r_2032]; decide)) (by decide) (Nat.le_of_ble_eq_true rfl) ?_
  refine zs_aload_n (pc := 113) C dX4_copyFrom_113 rfl ?_
  refine zs_getf (pc := 114) C dX4_copyFrom_114 w_X4_33 f_5_7 (by decide) ?_
  refine zs_iconst (pc := 117) C dX4_copyFrom_117 (by decide) ?_
  refine zs_aload_n (pc := 118) C dX4_copyFrom_118 rfl ?_
  refine zs_getf (pc := 119) C dX4_copyFrom_119 w_X4_33 f_5_7 (by decide) ?_
  refine zs_iconst (pc := 122) C dX4_copyFrom_122 (by decide) ?_
  refine zs_bipush (pc := 123) C dX4_copyFrom_123 (by decide) (by decide) ?_
  refine zs_acopy (r0 := 2033) (r1 := 2033) (pc := 125) C dX4_copyFrom_125 ac_X4_46 a_33 a_33 (by decide) (by decide) (by omega) (by omega) (by omega) (by omega) (by omega) rfl rfl (fun i j => Or.inl (by rw [r_2033, r_2033]; decide)) (by decide) (Nat.le_of_ble_eq_true rfl) ?_
  refine zs_aload_n (pc := 128) C dX4_copyFrom_128 rfl ?_
  refine zs_getf (pc := 129) C dX4_copyFrom_129 w_X4_36 f_5_8 (by decide) ?_
  refine zs_iconst (pc := 132) C dX4_copyFrom_132 (by decide) ?_
  refine zs_aload_n (pc := 133) C dX4_copyFrom_133 rfl ?_
  refine zs_getf (pc := 134) C dX4_copyFrom_134 w_X4_36 f_5_8 (by decide) ?_
  refine zs_iconst (pc := 137) C dX4_copyFrom_137 (by decide) ?_
  refine zs_bipush (pc := 138) C dX4_copyFrom_138 (by decide) (by decide) ?_
  refine zs_acopy (r0 := 2034) (r1 := 2034) (pc := 140) C dX4_copyFrom_140 ac_X4_46 a_34 a_34 (by decide) (by decide) (by omega) (by omega) (by omega) (by omega) (by omega) rfl rfl (fun i j => Or.inl (by rw [r_2034, r_2034]; decide)) (by decide) (Nat.le_of_ble_eq_true rfl) ?_
  refine zs_aload_n (pc := 143) C dX4_copyFrom_143 rfl ?_
  refine zs_getf (pc := 144) C dX4_copyFrom_144 w_X4_39 f_5_9 (by decide) ?_
  refine zs_iconst (pc := 147) C dX4_copyFrom_147 (by decide) ?_
  refine zs_aload_n (pc := 148) C dX4_copyFrom_148 rfl ?_
  refine zs_getf (pc := 149) C dX4_copyFrom_149 w_X4_39 f_5_9 (by decide) ?_
  refine zs_iconst (pc := 152) C dX4_copyFrom_152 (by decide) ?_
  refine zs_bipush (pc := 153) C dX4_copyFrom_153 (by decide) (by decide) ?_
  refine zs_acopy (r0 := 2035) (r1 := 2035) (pc := 155) C dX4_copyFrom_155 ac_X4_46 a_35 a_35 (by decide) (by decide) (by omega) (by omega) (by omega) (by omega) (by omega) rfl rfl (fun i j => Or.inl (by rw [r_2035, r_2035]; decide)) (by decide) (Nat.le_of_ble_eq_true rfl) ?_
  exact zs_vret (pc := 158) C hr hlk dX4_copyFrom_158 ⟨by repeat (first | exact zsm_rf | assumption | refine zsm_C (by decide) ?_ | refine zsm_I (by decide) ?_ | refine zsm_J ?_ | refine zsm_c (by assumption) (by decide) ?_), trivial⟩
