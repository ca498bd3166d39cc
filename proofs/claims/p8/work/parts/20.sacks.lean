set_option maxHeartbeats 4000000 in
set_option maxRecDepth 100000 in
theorem c_X4_has {l : Launch} {Γ : zΓ} {G : zH} {w : Nat} {k : Int} (hX : zXs Γ)  : zMet l Γ yX4_has cX4_has 2 (some .boolean) 0 [zr 5 w, zi k] G (zpi (fun x G' => G' = G ∧ ((x = 0 ∨ x = 1) ∧ (x = 1 ↔ 0 ≤ k ∧ k < G.1 510 w 0) ∧ (x = 1 → k < 60)))) := by
  refine zMet_of RX4 hX (by decide) rfl (Nat.le_of_ble_eq_true rfl) ?_
  intro p e s m args below meth c C hr hlk
  show Z p l e (zrm 0) s m args below meth c Γ 2 0 0 (MQ below (zQc Γ (zpi (fun x G' => G' = G ∧ ((x = 0 ∨ x = 1) ∧ (x = 1 ↔ 0 ≤ k ∧ k < G.1 510 w 0) ∧ (x = 1 → k < 60))))) args s 0 0 (zA Γ)) 0 [some (zr 5 w), some (zi k)] [] G
  refine zs_loc 1 rfl (fun ha1 hb1 => ?_)
  refine zs_iload_n (pc := 0) C dX4_has_0 rfl ?_
  refine zs_if_lt (tgt := 16) (pc := 1) C dX4_has_1 (by decide) (fun h1 => ?_) (fun h1 => ?_)
  · skip
    refine zs_iconst (pc := 16) C dX4_has_16 (by decide) ?_
    exact zs_zret (pc := 17) C hr hlk dX4_has_17 (by omega) ⟨rfl, by first | omega | (simp only [zuI_1, zuI_2, zuJ_1, zuJ_2, zuJ_3, zuP_1, zuP_2, zuP_3, zuC_1, zuC_2, reduceIte, Nat.reduceEqDiff, false_and, and_false, true_and, and_true, and_self, or_true, true_or, or_false, false_or]; omega)⟩
  · skip
    refine zs_iload_n (pc := 4) C dX4_has_4 rfl ?_
    refine zs_aload_n (pc := 5) C dX4_has_5 rfl ?_
    refine zs_geti (r := 510) (pc := 6) C dX4_has_6 w_X4_42 f_5_10 rfl (r_510 0) (fun v6 e6 l6 u6 => ?_)
    refine zs_icmp_ge (tgt := 16) (pc := 9) C dX4_has_9 (by decide) (fun h9 => ?_) (fun h9 => ?_)
    · skip
      refine zs_iconst (pc := 16) C dX4_has_16 (by decide) ?_
      exact zs_zret (pc := 17) C hr hlk dX4_has_17 (by omega) ⟨rfl, by first | omega | (simp only [zuI_1, zuI_2, zuJ_1, zuJ_2, zuJ_3, zuP_1, zuP_2, zuP_3, zuC_1, zuC_2, reduceIte, Nat.reduceEqDiff, false_and, and_false, true_and, and_true, and_self, or_true, true_or, or_false, false_or]; omega)⟩
    · skip
      refine zs_iconst (pc := 12) C dX4_has_12 (by decide) ?_
      refine zs_goto (tgt := 17) (pc := 13) C dX4_has_13 (by decide) ?_
      exact zs_zret (pc := 17) C hr hlk dX4_has_17 (by omega) ⟨rfl, by first | omega | (simp only [zuI_1, zuI_2, zuJ_1, zuJ_2, zuJ_3, zuP_1, zuP_2, zuP_3, zuC_1, zuC_2, reduceIte, Nat.reduceEqDiff, false_and, and_false, true_and, and_true, and_self, or_true, true_or, or_false, false_or]; omega)⟩

set_option maxHeartbeats 4000000 in
set_option maxRecDepth 100000 in
theorem c_X4_isFull {l : Launch} {Γ : zΓ} {G : zH} {w : Nat} (hX : zXs Γ)  : zMet l Γ yX4_isFull cX4_isFull 1 (some .boolean) 0 [zr 5 w] G (zpi (fun x G' => G' = G ∧ ((x = 0 ∨ x = 1) ∧ (x = 1 ↔ 60 ≤ G.1 510 w 0)))) := by
  refine zMet_of RX4 hX (by decide) rfl (Nat.le_of_ble_eq_true rfl) ?_
  intro p e s m args below meth c C hr hlk
  show Z p l e (zrm 0) s m args below meth c Γ 1 0 0 (MQ below (zQc Γ (zpi (fun x G' => G' = G ∧ ((x = 0 ∨ x = 1) ∧ (x = 1 ↔ 60 ≤ G.1 510 w 0))))) args s 0 0 (zA Γ)) 0 [some (zr 5 w)] [] G
  refine zs_aload_n (pc := 0) C dX4_isFull_0 rfl ?_
  refine zs_geti (r := 510) (pc := 1) C dX4_isFull_1 w_X4_42 f_5_10 rfl (r_510 0) (fun v1 e1 l1 u1 => ?_)
  refine zs_bipush (pc := 4) C dX4_isFull_4 (by decide) (by decide) ?_
  refine zs_icmp_lt (tgt := 13) (pc := 6) C dX4_isFull_6 (by decide) (fun h6 => ?_) (fun h6 => ?_)
  · skip
    refine zs_iconst (pc := 13) C dX4_isFull_13 (by decide) ?_
    exact zs_zret (pc := 14) C hr hlk dX4_isFull_14 (by omega) ⟨rfl, by first | omega | (simp only [zuI_1, zuI_2, zuJ_1, zuJ_2, zuJ_3, zuP_1, zuP_2, zuP_3, zuC_1, zuC_2, reduceIte, Nat.reduceEqDiff, false_and, and_false, true_and, and_true, and_self, or_true, true_or, or_false, false_or]; omega)⟩
  · skip
    refine zs_iconst (pc := 9) C dX4_isFull_9 (by decide) ?_
    refine zs_goto (tgt := 14) (pc := 10) C dX4_isFull_10 (by decide) ?_
    exact zs_zret (pc := 14) C hr hlk dX4_isFull_14 (by omega) ⟨rfl, by first | omega | (simp only [zuI_1, zuI_2, zuJ_1, zuJ_2, zuJ_3, zuP_1, zuP_2, zuP_3, zuC_1, zuC_2, reduceIte, Nat.reduceEqDiff, false_and, and_false, true_and, and_true, and_self, or_true, true_or, or_false, false_or]; omega)⟩

set_option maxHeartbeats 4000000 in
set_option maxRecDepth 100000 in
theorem c_X4_lieBy {l : Launch} {Γ : zΓ} {G : zH} {w : Nat} {k sn : Int} (hX : zXs Γ) (hk : 0 ≤ k ∧ k < 60) : zMet l Γ yX4_lieBy cX4_lieBy 3 (some .int) 0 [zr 5 w, zi k, zi sn] G (zpi (fun x G' => G' = G ∧ (x = 0 ∨ x = 1))) := by
  refine zMet_of RX4 hX (by decide) rfl (Nat.le_of_ble_eq_true rfl) ?_
  intro p e s m args below meth c C hr hlk
  show Z p l e (zrm 0) s m args below meth c Γ 3 0 0 (MQ below (zQc Γ (zpi (fun x G' => G' = G ∧ (x = 0 ∨ x = 1)))) args s 0 0 (zA Γ)) 0 [some (zr 5 w), some (zi k), some (zi sn)] [] G
  refine zs_loc 1 rfl (fun ha1 hb1 => ?_)
  refine zs_loc 2 rfl (fun ha2 hb2 => ?_)
  refine zs_aload_n (pc := 0) C dX4_lieBy_0 rfl ?_
  refine zs_getf (pc := 1) C dX4_lieBy_1 w_X4_39 f_5_9 (by decide) ?_
  refine zs_iload_n (pc := 4) C dX4_lieBy_4 rfl ?_
  refine zs_iald (r := 2035) (pc := 5) C dX4_lieBy_5 a_35 (by decide) (by omega) rfl (r_2035 _) (fun v5 e5 l5 u5 => ?_)
  refine zs_iload_n (pc := 6) C dX4_lieBy_6 rfl ?_
  refine zs_ishrF (pc := 7) C dX4_lieBy_7 (fun z7 hz71 hz72 => ?_)
  refine zs_iconst (pc := 8) C dX4_lieBy_8 (by decide) ?_
  first | refine zs_iand (pc := 9) C 1 dX4_lieBy_9 (by decide) (by decide) (fun z9 hz91 hz92 => ?_) | refine zs_iand (pc := 9) C 2 dX4_lieBy_9 (by decide) (by decide) (fun z9 hz91 hz92 => ?_) | refine zs_iand (pc := 9) C 8 dX4_lieBy_9 (by decide) (by decide) (fun z9 hz91 hz92 => ?_) | refine zs_iandF (pc := 9) C dX4_lieBy_9 (fun z9 hz91 hz92 => ?_)
  refine zs_if_ne (tgt := 17) (pc := 10) C dX4_lieBy_10 (by decide) (fun h10 => ?_) (fun h10 => ?_)
  · skip
    refine zs_iconst (pc := 17) C dX4_lieBy_17 (by decide) ?_
    exact zs_iret (pc := 18) C hr hlk dX4_lieBy_18 ⟨rfl, by first | omega | (simp only [zuI_1, zuI_2, zuJ_1, zuJ_2, zuJ_3, zuP_1, zuP_2, zuP_3, zuC_1, zuC_2, reduceIte, Nat.reduceEqDiff, false_and, and_false, true_and, and_true, and_self, or_true, true_or, or_false, false_or]; omega)⟩
  · skip
    refine zs_iconst (pc := 13) C dX4_lieBy_13 (by decide) ?_
    refine zs_goto (tgt := 18) (pc := 14) C dX4_lieBy_14 (by decide) ?_
    exact zs_iret (pc := 18) C hr hlk dX4_lieBy_18 ⟨rfl, by first | omega | (simp only [zuI_1, zuI_2, zuJ_1, zuJ_2, zuJ_3, zuP_1, zuP_2, zuP_3, zuC_1, zuC_2, reduceIte, Nat.reduceEqDiff, false_and, and_false, true_and, and_true, and_self, or_true, true_or, or_false, false_or]; omega)⟩

set_option maxHeartbeats 4000000 in
set_option maxRecDepth 100000 in
theorem c_X4_flourFrom {l : Launch} {Γ : zΓ} {G : zH} {w : Nat} {q : Int} (hX : zXs Γ)  : zMet l Γ yX4_flourFrom cX4_flourFrom 4 (some .int) 0 [zr 5 w, zi q] G (zpi (fun x G' => G' = G ∧ True)) := by
  refine zMet_of RX4 hX (by decide) rfl (Nat.le_of_ble_eq_true rfl) ?_
  intro p e s m args below meth c C hr hlk
  show Z p l e (zrm 0) s m args below meth c Γ 4 0 0 (MQ below (zQc Γ (zpi (fun x G' => G' = G ∧ True))) args s 0 0 (zA Γ)) 0 [some (zr 5 w), some (zi q), none, none] [] G
  refine zs_loc 1 rfl (fun ha1 hb1 => ?_)
  refine zs_iconst (pc := 0) C dX4_flourFrom_0 (by decide) ?_
  refine zs_istore_n (pc := 1) C dX4_flourFrom_1 (by decide) ?_
  dsimp only [zset, zclr, znone]
  refine zs_iconst (pc := 2) C dX4_flourFrom_2 (by decide) ?_
  refine zs_istore_n (pc := 3) C dX4_flourFrom_3 (by decide) ?_
  dsimp only [zset, zclr, znone]
  have L4 : ∀ (nn : Nat) (x2 x3 : Int), (0 ≤ x3 ∧ x3 ≤ 60) → (60 - x3).toNat < nn → Z p l e (zrm 0) s m args below meth c Γ 4 0 0 (MQ below (zQc Γ (zpi (fun x G' => G' = G ∧ True))) args s 0 0 (zA Γ)) 4 [some (zr 5 w), some (zi q), some (zi x2), some (zi x3)] [] G := by
    intro nn
    induction nn with
    | zero => intro x2 x3 h4_0 hm; exact absurd hm (Nat.not_lt_zero _)
    | succ nn ih4 =>
      intro x2 x3 h4_0 hm4
      refine zs_iload_n (pc := 4) C dX4_flourFrom_4 rfl ?_
      refine zs_aload_n (pc := 5) C dX4_flourFrom_5 rfl ?_
      refine zs_geti (r := 510) (pc := 6) C dX4_flourFrom_6 w_X4_42 f_5_10 rfl (r_510 0) (fun v6 e6 l6 u6 => ?_)
      refine zs_icmp_ge (tgt := 41) (pc := 9) C dX4_flourFrom_9 (by decide) (fun h9 => ?_) (fun h9 => ?_)
      · skip
        refine zs_iload_n (pc := 41) C dX4_flourFrom_41 rfl ?_
        exact zs_iret (pc := 42) C hr hlk dX4_flourFrom_42 ⟨rfl, trivial⟩
      · skip
        refine zs_iload_n (pc := 12) C dX4_flourFrom_12 rfl ?_
        refine zs_aload_n (pc := 13) C dX4_flourFrom_13 rfl ?_
        refine zs_getf (pc := 14) C dX4_flourFrom_14 w_X4_18 f_5_2 (by decide) ?_
        refine zs_iload_n (pc := 17) C dX4_flourFrom_17 rfl ?_
        refine zs_iald (r := 2028) (pc := 18) C dX4_flourFrom_18 a_28 (by decide) (by omega) rfl (r_2028 _) (fun v18 e18 l18 u18 => ?_)
        refine zs_iload_n (pc := 19) C dX4_flourFrom_19 rfl ?_
        refine zs_icmp_lt (tgt := 32) (pc := 20) C dX4_flourFrom_20 (by decide) (fun h20 => ?_) (fun h20 => ?_)
        · skip
          refine zs_iconst (pc := 32) C dX4_flourFrom_32 (by decide) ?_
          first | refine zs_iadd (pc := 33) C dX4_flourFrom_33 (by omega) ?_ | refine zs_iaddF (pc := 33) C dX4_flourFrom_33 (fun z33 hz331 hz332 => ?_)
          refine zs_istore_n (pc := 34) C dX4_flourFrom_34 (by decide) ?_
          dsimp only [zset, zclr, znone]
          first | refine zs_iinc (pc := 35) C dX4_flourFrom_35 rfl (by decide) (by omega) ?_ | refine zs_iincF (pc := 35) C dX4_flourFrom_35 rfl (by decide) (fun z35 hz351 hz352 => ?_)
          dsimp only [zset, zclr, znone]
          refine zs_goto (tgt := 4) (pc := 38) C dX4_flourFrom_38 (by decide) ?_
          exact zs_wk (ih4 _ _ (by first | omega | (simp only [zuI_1, zuI_2, zuJ_1, zuJ_2, zuJ_3, zuP_1, zuP_2, zuP_3, zuC_1, zuC_2, reduceIte, Nat.reduceEqDiff, false_and, and_false, true_and, and_true, and_self, or_true, true_or, or_false, false_or]; omega)) (by first | omega | (simp only [zuI_1, zuI_2, zuJ_1, zuJ_2, zuJ_3, zuP_1, zuP_2, zuP_3, zuC_1, zuC_2, reduceIte, Nat.reduceEqDiff, false_and, and_false, true_and, and_true, and_self, or_true, true_or, or_false, false_or]; omega))) (zwk_s rfl (zwk_s rfl (zwk_s rfl (zwk_s rfl zwk_0))))
        · skip
          refine zs_aload_n (pc := 23) C dX4_flourFrom_23 rfl ?_
          refine zs_getf (pc := 24) C dX4_flourFrom_24 w_X4_24 f_5_4 (by decide) ?_
          refine zs_iload_n (pc := 27) C dX4_flourFrom_27 rfl ?_
          refine zs_iald (r := 2030) (pc := 28) C dX4_flourFrom_28 a_30 (by decide) (by omega) rfl (r_2030 _) (fun v28 e28 l28 u28 => ?_)
          refine zs_goto (tgt := 33) (pc := 29) C dX4_flourFrom_29 (by decide) ?_
          first | refine zs_iadd (pc := 33) C dX4_flourFrom_33 (by omega) ?_ | refine zs_iaddF (pc := 33) C dX4_flourFrom_33 (fun z33 hz331 hz332 => ?_)
          refine zs_istore_n (pc := 34) C dX4_flourFrom_34 (by decide) ?_
          dsimp only [zset, zclr, znone]
          first | refine zs_iinc (pc := 35) C dX4_flourFrom_35 rfl (by decide) (by omega) ?_ | refine zs_iincF (pc := 35) C dX4_flourFrom_35 rfl (by decide) (fun z35 hz351 hz352 => ?_)
          dsimp only [zset, zclr, znone]
          refine zs_goto (tgt := 4) (pc := 38) C dX4_flourFrom_38 (by decide) ?_
          exact zs_wk (ih4 _ _ (by first | omega | (simp only [zuI_1, zuI_2, zuJ_1, zuJ_2, zuJ_3, zuP_1, zuP_2, zuP_3, zuC_1, zuC_2, reduceIte, Nat.reduceEqDiff, false_and, and_false, true_and, and_true, and_self, or_true, true_or, or_false, false_or]; omega)) (by first | omega | (simp only [zuI_1, zuI_2, zuJ_1, zuJ_2, zuJ_3, zuP_1, zuP_2, zuP_3, zuC_1, zuC_2, reduceIte, Nat.reduceEqDiff, false_and, and_false, true_and, and_true, and_self, or_true, true_or, or_false, false_or]; omega))) (zwk_s rfl (zwk_s rfl (zwk_s rfl (zwk_s rfl zwk_0))))
  exact zs_wk (L4 _ _ _ (by first | omega | (simp only [zuI_1, zuI_2, zuJ_1, zuJ_2, zuJ_3, zuP_1, zuP_2, zuP_3, zuC_1, zuC_2, reduceIte, Nat.reduceEqDiff, false_and, and_false, true_and, and_true, and_self, or_true, true_or, or_false, false_or]; omega)) (Nat.lt_succ_self _)) (zwk_s rfl (zwk_s rfl (zwk_s rfl (zwk_s rfl zwk_0))))

