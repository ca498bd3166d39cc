set_option maxHeartbeats 4000000 in
set_option maxRecDepth 100000 in
theorem c_X9_isIn {l : Launch} {Γ : zΓ} {G : zH} {a b q : Int} (hX : zXs Γ)  : zMet l Γ yX9_isIn cX9_isIn 3 (some .boolean) 0 [zi a, zi b, zi q] G (zpi (fun x G' => G' = G ∧ ((x = 0 ∨ x = 1) ∧ (x = 1 ↔ b ≤ a ∧ a ≤ q)))) := by
  refine zMet_of RX9 hX (by decide) rfl (Nat.le_of_ble_eq_true rfl) ?_
  intro p e s m args below meth c C hr hlk
  show Z p l e (zrm 0) s m args below meth c Γ 3 0 0 (MQ below (zQc Γ (zpi (fun x G' => G' = G ∧ ((x = 0 ∨ x = 1) ∧ (x = 1 ↔ b ≤ a ∧ a ≤ q))))) args s 0 0 (zA Γ)) 0 [some (zi a), some (zi b), some (zi q)] [] G
  refine zs_loc 0 rfl (fun ha0 hb0 => ?_)
  refine zs_loc 1 rfl (fun ha1 hb1 => ?_)
  refine zs_loc 2 rfl (fun ha2 hb2 => ?_)
  refine zs_iload_n (pc := 0) C dX9_isIn_0 rfl ?_
  refine zs_iload_n (pc := 1) C dX9_isIn_1 rfl ?_
  refine zs_icmp_lt (tgt := 14) (pc := 2) C dX9_isIn_2 (by decide) (fun h2 => ?_) (fun h2 => ?_)
  · skip
    refine zs_iconst (pc := 14) C dX9_isIn_14 (by decide) ?_
    exact zs_zret (pc := 15) C hr hlk dX9_isIn_15 (by omega) ⟨rfl, by first | omega | (simp only [zuI_1, zuI_2, zuJ_1, zuJ_2, zuJ_3, zuP_1, zuP_2, zuP_3, zuC_1, zuC_2, reduceIte, Nat.reduceEqDiff, false_and, and_false, true_and, and_true, and_self, or_true, true_or, or_false, false_or]; omega)⟩
  · skip
    refine zs_iload_n (pc := 5) C dX9_isIn_5 rfl ?_
    refine zs_iload_n (pc := 6) C dX9_isIn_6 rfl ?_
    refine zs_icmp_gt (tgt := 14) (pc := 7) C dX9_isIn_7 (by decide) (fun h7 => ?_) (fun h7 => ?_)
    · skip
      refine zs_iconst (pc := 14) C dX9_isIn_14 (by decide) ?_
      exact zs_zret (pc := 15) C hr hlk dX9_isIn_15 (by omega) ⟨rfl, by first | omega | (simp only [zuI_1, zuI_2, zuJ_1, zuJ_2, zuJ_3, zuP_1, zuP_2, zuP_3, zuC_1, zuC_2, reduceIte, Nat.reduceEqDiff, false_and, and_false, true_and, and_true, and_self, or_true, true_or, or_false, false_or]; omega)⟩
    · skip
      refine zs_iconst (pc := 10) C dX9_isIn_10 (by decide) ?_
      refine zs_goto (tgt := 15) (pc := 11) C dX9_isIn_11 (by decide) ?_
      exact zs_zret (pc := 15) C hr hlk dX9_isIn_15 (by omega) ⟨rfl, by first | omega | (simp only [zuI_1, zuI_2, zuJ_1, zuJ_2, zuJ_3, zuP_1, zuP_2, zuP_3, zuC_1, zuC_2, reduceIte, Nat.reduceEqDiff, false_and, and_false, true_and, and_true, and_self, or_true, true_or, or_false, false_or]; omega)⟩

set_option maxHeartbeats 4000000 in
set_option maxRecDepth 100000 in
theorem c_X9_isOf {l : Launch} {Γ : zΓ} {G : zH} {a b : Int} (hX : zXs Γ)  : zMet l Γ yX9_isOf cX9_isOf 2 (some .boolean) 0 [zi a, zi b] G (zpi (fun x G' => G' = G ∧ (x = 0 ∨ x = 1))) := by
  refine zMet_of RX9 hX (by decide) rfl (Nat.le_of_ble_eq_true rfl) ?_
  intro p e s m args below meth c C hr hlk
  show Z p l e (zrm 0) s m args below meth c Γ 2 0 0 (MQ below (zQc Γ (zpi (fun x G' => G' = G ∧ (x = 0 ∨ x = 1)))) args s 0 0 (zA Γ)) 0 [some (zi a), some (zi b)] [] G
  refine zs_loc 0 rfl (fun ha0 hb0 => ?_)
  refine zs_loc 1 rfl (fun ha1 hb1 => ?_)
  refine zs_iload_n (pc := 0) C dX9_isOf_0 rfl ?_
  refine zs_iload_n (pc := 1) C dX9_isOf_1 rfl ?_
  refine zs_ishrF (pc := 2) C dX9_isOf_2 (fun z2 hz21 hz22 => ?_)
  refine zs_iconst (pc := 3) C dX9_isOf_3 (by decide) ?_
  first | refine zs_iand (pc := 4) C 1 dX9_isOf_4 (by decide) (by decide) (fun z4 hz41 hz42 => ?_) | refine zs_iand (pc := 4) C 2 dX9_isOf_4 (by decide) (by decide) (fun z4 hz41 hz42 => ?_) | refine zs_iand (pc := 4) C 8 dX9_isOf_4 (by decide) (by decide) (fun z4 hz41 hz42 => ?_) | refine zs_iandF (pc := 4) C dX9_isOf_4 (fun z4 hz41 hz42 => ?_)
  refine zs_iconst (pc := 5) C dX9_isOf_5 (by decide) ?_
  refine zs_icmp_ne (tgt := 13) (pc := 6) C dX9_isOf_6 (by decide) (fun h6 => ?_) (fun h6 => ?_)
  · skip
    refine zs_iconst (pc := 13) C dX9_isOf_13 (by decide) ?_
    exact zs_zret (pc := 14) C hr hlk dX9_isOf_14 (by omega) ⟨rfl, by first | omega | (simp only [zuI_1, zuI_2, zuJ_1, zuJ_2, zuJ_3, zuP_1, zuP_2, zuP_3, zuC_1, zuC_2, reduceIte, Nat.reduceEqDiff, false_and, and_false, true_and, and_true, and_self, or_true, true_or, or_false, false_or]; omega)⟩
  · skip
    refine zs_iconst (pc := 9) C dX9_isOf_9 (by decide) ?_
    refine zs_goto (tgt := 14) (pc := 10) C dX9_isOf_10 (by decide) ?_
    exact zs_zret (pc := 14) C hr hlk dX9_isOf_14 (by omega) ⟨rfl, by first | omega | (simp only [zuI_1, zuI_2, zuJ_1, zuJ_2, zuJ_3, zuP_1, zuP_2, zuP_3, zuC_1, zuC_2, reduceIte, Nat.reduceEqDiff, false_and, and_false, true_and, and_true, and_self, or_true, true_or, or_false, false_or]; omega)⟩

set_option maxHeartbeats 4000000 in
set_option maxRecDepth 100000 in
theorem c_X9_rank {l : Launch} {Γ : zΓ} {G : zH} {k : Int} (hX : zXs Γ)  : zMet l Γ yX9_rank cX9_rank 1 (some .int) 0 [zi k] G (zpi (fun x G' => G' = G ∧ ((k ≥ 13 → x = 6) ∧ (11 ≤ k → k < 13 → x = 5) ∧ (5 ≤ k → k < 11 → x = 4) ∧ (k = 2 → x = 3) ∧ (k = 3 → x = 2) ∧ (k = 4 → x = 1) ∧ (k < 2 → x = 0)))) := by
  refine zMet_of RX9 hX (by decide) rfl (Nat.le_of_ble_eq_true rfl) ?_
  intro p e s m args below meth c C hr hlk
  show Z p l e (zrm 0) s m args below meth c Γ 1 0 0 (MQ below (zQc Γ (zpi (fun x G' => G' = G ∧ ((k ≥ 13 → x = 6) ∧ (11 ≤ k → k < 13 → x = 5) ∧ (5 ≤ k → k < 11 → x = 4) ∧ (k = 2 → x = 3) ∧ (k = 3 → x = 2) ∧ (k = 4 → x = 1) ∧ (k < 2 → x = 0))))) args s 0 0 (zA Γ)) 0 [some (zi k)] [] G
  refine zs_loc 0 rfl (fun ha0 hb0 => ?_)
  refine zs_iload_n (pc := 0) C dX9_rank_0 rfl ?_
  refine zs_bipush (pc := 1) C dX9_rank_1 (by decide) (by decide) ?_
  refine zs_icmp_lt (tgt := 11) (pc := 3) C dX9_rank_3 (by decide) (fun h3 => ?_) (fun h3 => ?_)
  · skip
    refine zs_iload_n (pc := 11) C dX9_rank_11 rfl ?_
    refine zs_bipush (pc := 12) C dX9_rank_12 (by decide) (by decide) ?_
    refine zs_icmp_lt (tgt := 21) (pc := 14) C dX9_rank_14 (by decide) (fun h14 => ?_) (fun h14 => ?_)
    · skip
      refine zs_iload_n (pc := 21) C dX9_rank_21 rfl ?_
      refine zs_iconst (pc := 22) C dX9_rank_22 (by decide) ?_
      refine zs_icmp_lt (tgt := 30) (pc := 23) C dX9_rank_23 (by decide) (fun h23 => ?_) (fun h23 => ?_)
      · skip
        refine zs_iload_n (pc := 30) C dX9_rank_30 rfl ?_
        refine zs_iconst (pc := 31) C dX9_rank_31 (by decide) ?_
        refine zs_icmp_ne (tgt := 39) (pc := 32) C dX9_rank_32 (by decide) (fun h32 => ?_) (fun h32 => ?_)
        · skip
          refine zs_iload_n (pc := 39) C dX9_rank_39 rfl ?_
          refine zs_iconst (pc := 40) C dX9_rank_40 (by decide) ?_
          refine zs_icmp_ne (tgt := 48) (pc := 41) C dX9_rank_41 (by decide) (fun h41 => ?_) (fun h41 => ?_)
          · skip
            refine zs_iload_n (pc := 48) C dX9_rank_48 rfl ?_
            refine zs_iconst (pc := 49) C dX9_rank_49 (by decide) ?_
            refine zs_icmp_ne (tgt := 57) (pc := 50) C dX9_rank_50 (by decide) (fun h50 => ?_) (fun h50 => ?_)
            · skip
              refine zs_iconst (pc := 57) C dX9_rank_57 (by decide) ?_
              exact zs_iret (pc := 58) C hr hlk dX9_rank_58 ⟨rfl, by first | omega | (simp only [zuI_1, zuI_2, zuJ_1, zuJ_2, zuJ_3, zuP_1, zuP_2, zuP_3, zuC_1, zuC_2, reduceIte, Nat.reduceEqDiff, false_and, and_false, true_and, and_true, and_self, or_true, true_or, or_false, false_or]; omega)⟩
            · skip
              refine zs_iconst (pc := 53) C dX9_rank_53 (by decide) ?_
              refine zs_goto (tgt := 58) (pc := 54) C dX9_rank_54 (by decide) ?_
              exact zs_iret (pc := 58) C hr hlk dX9_rank_58 ⟨rfl, by first | omega | (simp only [zuI_1, zuI_2, zuJ_1, zuJ_2, zuJ_3, zuP_1, zuP_2, zuP_3, zuC_1, zuC_2, reduceIte, Nat.reduceEqDiff, false_and, and_false, true_and, and_true, and_self, or_true, true_or, or_false, false_or]; omega)⟩
          · skip
            refine zs_iconst (pc := 44) C dX9_rank_44 (by decide) ?_
            refine zs_goto (tgt := 58) (pc := 45) C dX9_rank_45 (by decide) ?_
            exact zs_iret (pc := 58) C hr hlk dX9_rank_58 ⟨rfl, by first | omega | (simp only [zuI_1, zuI_2, zuJ_1, zuJ_2, zuJ_3, zuP_1, zuP_2, zuP_3, zuC_1, zuC_2, reduceIte, Nat.reduceEqDiff, false_and, and_false, true_and, and_true, and_self, or_true, true_or, or_false, false_or]; omega)⟩
        · skip
          refine zs_iconst (pc := 35) C dX9_rank_35 (by decide) ?_
          refine zs_goto (tgt := 58) (pc := 36) C dX9_rank_36 (by decide) ?_
          exact zs_iret (pc := 58) C hr hlk dX9_rank_58 ⟨rfl, by first | omega | (simp only [zuI_1, zuI_2, zuJ_1, zuJ_2, zuJ_3, zuP_1, zuP_2, zuP_3, zuC_1, zuC_2, reduceIte, Nat.reduceEqDiff, false_and, and_false, true_and, and_true, and_self, or_true, true_or, or_false, false_or]; omega)⟩
      · skip
        refine zs_iconst (pc := 26) C dX9_rank_26 (by decide) ?_
        refine zs_goto (tgt := 58) (pc := 27) C dX9_rank_27 (by decide) ?_
        exact zs_iret (pc := 58) C hr hlk dX9_rank_58 ⟨rfl, by first | omega | (simp only [zuI_1, zuI_2, zuJ_1, zuJ_2, zuJ_3, zuP_1, zuP_2, zuP_3, zuC_1, zuC_2, reduceIte, Nat.reduceEqDiff, false_and, and_false, true_and, and_true, and_self, or_true, true_or, or_false, false_or]; omega)⟩
    · skip
      refine zs_iconst (pc := 17) C dX9_rank_17 (by decide) ?_
      refine zs_goto (tgt := 58) (pc := 18) C dX9_rank_18 (by decide) ?_
      exact zs_iret (pc := 58) C hr hlk dX9_rank_58 ⟨rfl, by first | omega | (simp only [zuI_1, zuI_2, zuJ_1, zuJ_2, zuJ_3, zuP_1, zuP_2, zuP_3, zuC_1, zuC_2, reduceIte, Nat.reduceEqDiff, false_and, and_false, true_and, and_true, and_self, or_true, true_or, or_false, false_or]; omega)⟩
  · skip
    refine zs_bipush (pc := 6) C dX9_rank_6 (by decide) (by decide) ?_
    refine zs_goto (tgt := 58) (pc := 8) C dX9_rank_8 (by decide) ?_
    exact zs_iret (pc := 58) C hr hlk dX9_rank_58 ⟨rfl, by first | omega | (simp only [zuI_1, zuI_2, zuJ_1, zuJ_2, zuJ_3, zuP_1, zuP_2, zuP_3, zuC_1, zuC_2, reduceIte, Nat.reduceEqDiff, false_and, and_false, true_and, and_true, and_self, or_true, true_or, or_false, false_or]; omega)⟩

set_option maxHeartbeats 4000000 in
set_option maxRecDepth 100000 in
theorem c_X9_isPerson {l : Launch} {Γ : zΓ} {G : zH} {w : Nat} {p0 : Int} (hX : zXs Γ)  : zMet l Γ yX9_isPerson cX9_isPerson 2 (some .boolean) 0 [zr 10 w, zi p0] G (zpi (fun x G' => G' = G ∧ ((x = 0 ∨ x = 1) ∧ (x = 1 → 0 ≤ p0 ∧ p0 ≤ 4)))) := by
  refine zMet_of RX9 hX (by decide) rfl (Nat.le_of_ble_eq_true rfl) ?_
  intro p e s m args below meth c C hr hlk
  show Z p l e (zrm 0) s m args below meth c Γ 2 0 0 (MQ below (zQc Γ (zpi (fun x G' => G' = G ∧ ((x = 0 ∨ x = 1) ∧ (x = 1 → 0 ≤ p0 ∧ p0 ≤ 4))))) args s 0 0 (zA Γ)) 0 [some (zr 10 w), some (zi p0)] [] G
  refine zs_loc 1 rfl (fun ha1 hb1 => ?_)
  refine zs_iload_n (pc := 0) C dX9_isPerson_0 rfl ?_
  refine zs_if_lt (tgt := 16) (pc := 1) C dX9_isPerson_1 (by decide) (fun h1 => ?_) (fun h1 => ?_)
  · skip
    refine zs_iconst (pc := 16) C dX9_isPerson_16 (by decide) ?_
    exact zs_zret (pc := 17) C hr hlk dX9_isPerson_17 (by omega) ⟨rfl, by first | omega | (simp only [zuI_1, zuI_2, zuJ_1, zuJ_2, zuJ_3, zuP_1, zuP_2, zuP_3, zuC_1, zuC_2, reduceIte, Nat.reduceEqDiff, false_and, and_false, true_and, and_true, and_self, or_true, true_or, or_false, false_or]; omega)⟩
  · skip
    refine zs_iload_n (pc := 4) C dX9_isPerson_4 rfl ?_
    refine zs_aload_n (pc := 5) C dX9_isPerson_5 rfl ?_
    refine zs_geti (r := 1013) (pc := 6) C dX9_isPerson_6 w_X9_261 f_10_13 rfl (r_1013 0) (fun v6 e6 l6 u6 => ?_)
    refine zs_icmp_ge (tgt := 16) (pc := 9) C dX9_isPerson_9 (by decide) (fun h9 => ?_) (fun h9 => ?_)
    · skip
      refine zs_iconst (pc := 16) C dX9_isPerson_16 (by decide) ?_
      exact zs_zret (pc := 17) C hr hlk dX9_isPerson_17 (by omega) ⟨rfl, by first | omega | (simp only [zuI_1, zuI_2, zuJ_1, zuJ_2, zuJ_3, zuP_1, zuP_2, zuP_3, zuC_1, zuC_2, reduceIte, Nat.reduceEqDiff, false_and, and_false, true_and, and_true, and_self, or_true, true_or, or_false, false_or]; omega)⟩
    · skip
      refine zs_iconst (pc := 12) C dX9_isPerson_12 (by decide) ?_
      refine zs_goto (tgt := 17) (pc := 13) C dX9_isPerson_13 (by decide) ?_
      exact zs_zret (pc := 17) C hr hlk dX9_isPerson_17 (by omega) ⟨rfl, by first | omega | (simp only [zuI_1, zuI_2, zuJ_1, zuJ_2, zuJ_3, zuP_1, zuP_2, zuP_3, zuC_1, zuC_2, reduceIte, Nat.reduceEqDiff, false_and, and_false, true_and, and_true, and_self, or_true, true_or, or_false, false_or]; omega)⟩

set_option maxHeartbeats 4000000 in
set_option maxRecDepth 100000 in
theorem c_X9_isSin {l : Launch} {Γ : zΓ} {G : zH} {w : Nat} {p0 : Int} (hX : zXs Γ)  : zMet l Γ yX9_isSin cX9_isSin 2 (some .boolean) 0 [zr 10 w, zi p0] G (zpi (fun x G' => G' = G ∧ ((x = 0 ∨ x = 1) ∧ (x = 1 → 0 ≤ p0 ∧ p0 ≤ 3)))) := by
  refine zMet_of RX9 hX (by decide) rfl (Nat.le_of_ble_eq_true rfl) ?_
  intro p e s m args below meth c C hr hlk
  show Z p l e (zrm 0) s m args below meth c Γ 2 0 0 (MQ below (zQc Γ (zpi (fun x G' => G' = G ∧ ((x = 0 ∨ x = 1) ∧ (x = 1 → 0 ≤ p0 ∧ p0 ≤ 3))))) args s 0 0 (zA Γ)) 0 [some (zr 10 w), some (zi p0)] [] G
  refine zs_loc 1 rfl (fun ha1 hb1 => ?_)
  refine zs_iload_n (pc := 0) C dX9_isSin_0 rfl ?_
  refine zs_if_lt (tgt := 16) (pc := 1) C dX9_isSin_1 (by decide) (fun h1 => ?_) (fun h1 => ?_)
  · skip
    refine zs_iconst (pc := 16) C dX9_isSin_16 (by decide) ?_
    exact zs_zret (pc := 17) C hr hlk dX9_isSin_17 (by omega) ⟨rfl, by first | omega | (simp only [zuI_1, zuI_2, zuJ_1, zuJ_2, zuJ_3, zuP_1, zuP_2, zuP_3, zuC_1, zuC_2, reduceIte, Nat.reduceEqDiff, false_and, and_false, true_and, and_true, and_self, or_true, true_or, or_false, false_or]; omega)⟩
  · skip
    refine zs_iload_n (pc := 4) C dX9_isSin_4 rfl ?_
    refine zs_aload_n (pc := 5) C dX9_isSin_5 rfl ?_
    refine zs_geti (r := 1012) (pc := 6) C dX9_isSin_6 w_X9_258 f_10_12 rfl (r_1012 0) (fun v6 e6 l6 u6 => ?_)
    refine zs_icmp_ge (tgt := 16) (pc := 9) C dX9_isSin_9 (by decide) (fun h9 => ?_) (fun h9 => ?_)
    · skip
      refine zs_iconst (pc := 16) C dX9_isSin_16 (by decide) ?_
      exact zs_zret (pc := 17) C hr hlk dX9_isSin_17 (by omega) ⟨rfl, by first | omega | (simp only [zuI_1, zuI_2, zuJ_1, zuJ_2, zuJ_3, zuP_1, zuP_2, zuP_3, zuC_1, zuC_2, reduceIte, Nat.reduceEqDiff, false_and, and_false, true_and, and_true, and_self, or_true, true_or, or_false, false_or]; omega)⟩
    · skip
      refine zs_iconst (pc := 12) C dX9_isSin_12 (by decide) ?_
      refine zs_goto (tgt := 17) (pc := 13) C dX9_isSin_13 (by decide) ?_
      exact zs_zret (pc := 17) C hr hlk dX9_isSin_17 (by omega) ⟨rfl, by first | omega | (simp only [zuI_1, zuI_2, zuJ_1, zuJ_2, zuJ_3, zuP_1, zuP_2, zuP_3, zuC_1, zuC_2, reduceIte, Nat.reduceEqDiff, false_and, and_false, true_and, and_true, and_self, or_true, true_or, or_false, false_or]; omega)⟩

set_option maxHeartbeats 4000000 in
set_option maxRecDepth 100000 in
theorem c_X9_isCake {l : Launch} {Γ : zΓ} {G : zH} {w : Nat} {p0 : Int} (hX : zXs Γ)  : zMet l Γ yX9_isCake cX9_isCake 2 (some .boolean) 0 [zr 10 w, zi p0] G (zpi (fun x G' => G' = G ∧ ((x = 0 ∨ x = 1) ∧ (x = 1 → 0 ≤ p0 ∧ p0 ≤ 4)))) := by
  refine zMet_of RX9 hX (by decide) rfl (Nat.le_of_ble_eq_true rfl) ?_
  intro p e s m args below meth c C hr hlk
  show Z p l e (zrm 0) s m args below meth c Γ 2 0 0 (MQ below (zQc Γ (zpi (fun x G' => G' = G ∧ ((x = 0 ∨ x = 1) ∧ (x = 1 → 0 ≤ p0 ∧ p0 ≤ 4))))) args s 0 0 (zA Γ)) 0 [some (zr 10 w), some (zi p0)] [] G
  refine zs_loc 1 rfl (fun ha1 hb1 => ?_)
  refine zs_iload_n (pc := 0) C dX9_isCake_0 rfl ?_
  refine zs_if_lt (tgt := 16) (pc := 1) C dX9_isCake_1 (by decide) (fun h1 => ?_) (fun h1 => ?_)
  · skip
    refine zs_iconst (pc := 16) C dX9_isCake_16 (by decide) ?_
    exact zs_zret (pc := 17) C hr hlk dX9_isCake_17 (by omega) ⟨rfl, by first | omega | (simp only [zuI_1, zuI_2, zuJ_1, zuJ_2, zuJ_3, zuP_1, zuP_2, zuP_3, zuC_1, zuC_2, reduceIte, Nat.reduceEqDiff, false_and, and_false, true_and, and_true, and_self, or_true, true_or, or_false, false_or]; omega)⟩
  · skip
    refine zs_iload_n (pc := 4) C dX9_isCake_4 rfl ?_
    refine zs_aload_n (pc := 5) C dX9_isCake_5 rfl ?_
    refine zs_geti (r := 1014) (pc := 6) C dX9_isCake_6 w_X9_264 f_10_14 rfl (r_1014 0) (fun v6 e6 l6 u6 => ?_)
    refine zs_icmp_ge (tgt := 16) (pc := 9) C dX9_isCake_9 (by decide) (fun h9 => ?_) (fun h9 => ?_)
    · skip
      refine zs_iconst (pc := 16) C dX9_isCake_16 (by decide) ?_
      exact zs_zret (pc := 17) C hr hlk dX9_isCake_17 (by omega) ⟨rfl, by first | omega | (simp only [zuI_1, zuI_2, zuJ_1, zuJ_2, zuJ_3, zuP_1, zuP_2, zuP_3, zuC_1, zuC_2, reduceIte, Nat.reduceEqDiff, false_and, and_false, true_and, and_true, and_self, or_true, true_or, or_false, false_or]; omega)⟩
    · skip
      refine zs_iconst (pc := 12) C dX9_isCake_12 (by decide) ?_
      refine zs_goto (tgt := 17) (pc := 13) C dX9_isCake_13 (by decide) ?_
      exact zs_zret (pc := 17) C hr hlk dX9_isCake_17 (by omega) ⟨rfl, by first | omega | (simp only [zuI_1, zuI_2, zuJ_1, zuJ_2, zuJ_3, zuP_1, zuP_2, zuP_3, zuC_1, zuC_2, reduceIte, Nat.reduceEqDiff, false_and, and_false, true_and, and_true, and_self, or_true, true_or, or_false, false_or]; omega)⟩

set_option maxHeartbeats 4000000 in
set_option maxRecDepth 100000 in
theorem c_X9_leftOf {l : Launch} {Γ : zΓ} {G : zH} {w : Nat} {b0 p0 s0 : Int} (hX : zXs Γ) (hb : b0 = 0 ∨ b0 = 1)(hp : 0 ≤ p0 ∧ p0 ≤ 4)(hs : 0 ≤ s0 ∧ s0 ≤ 3) : zMet l Γ yX9_leftOf cX9_leftOf 4 (some .int) 0 [zr 10 w, zi b0, zi p0, zi s0] G (zpi (fun x G' => G' = G ∧ (x = wr (G.1 2081 (Γ.2.1 w 51) (20 * b0 + 4 * p0 + s0).toNat - G.1 2082 (Γ.2.1 w 52) (20 * b0 + 4 * p0 + s0).toNat)))) := by
  refine zMet_of RX9 hX (by decide) rfl (Nat.le_of_ble_eq_true rfl) ?_
  intro p e s m args below meth c C hr hlk
  show Z p l e (zrm 0) s m args below meth c Γ 4 0 0 (MQ below (zQc Γ (zpi (fun x G' => G' = G ∧ (x = wr (G.1 2081 (Γ.2.1 w 51) (20 * b0 + 4 * p0 + s0).toNat - G.1 2082 (Γ.2.1 w 52) (20 * b0 + 4 * p0 + s0).toNat))))) args s 0 0 (zA Γ)) 0 [some (zr 10 w), some (zi b0), some (zi p0), some (zi s0)] [] G
  refine zs_loc 1 rfl (fun ha1 hb1 => ?_)
  refine zs_loc 2 rfl (fun ha2 hb2 => ?_)
  refine zs_loc 3 rfl (fun ha3 hb3 => ?_)
  refine zs_aload_n (pc := 0) C dX9_leftOf_0 rfl ?_
  refine zs_getf (pc := 1) C dX9_leftOf_1 w_X9_88 f_10_51 (by decide) ?_
  refine zs_bipush (pc := 4) C dX9_leftOf_4 (by decide) (by decide) ?_
  refine zs_iload_n (pc := 6) C dX9_leftOf_6 rfl ?_
  first | refine zs_imul (pc := 7) C dX9_leftOf_7 (by omega) ?_ | refine zs_imulF (pc := 7) C dX9_leftOf_7 (fun z7 hz71 hz72 => ?_)
  refine zs_iconst (pc := 8) C dX9_leftOf_8 (by decide) ?_
  refine zs_iload_n (pc := 9) C dX9_leftOf_9 rfl ?_
  first | refine zs_imul (pc := 10) C dX9_leftOf_10 (by omega) ?_ | refine zs_imulF (pc := 10) C dX9_leftOf_10 (fun z10 hz101 hz102 => ?_)
  first | refine zs_iadd (pc := 11) C dX9_leftOf_11 (by omega) ?_ | refine zs_iaddF (pc := 11) C dX9_leftOf_11 (fun z11 hz111 hz112 => ?_)
  refine zs_iload_n (pc := 12) C dX9_leftOf_12 rfl ?_
  first | refine zs_iadd (pc := 13) C dX9_leftOf_13 (by omega) ?_ | refine zs_iaddF (pc := 13) C dX9_leftOf_13 (fun z13 hz131 hz132 => ?_)
  refine zs_iald (r := 2081) (pc := 14) C dX9_leftOf_14 a_81 (by decide) (by omega) rfl (r_2081 _) (fun v14 e14 l14 u14 => ?_)
  refine zs_aload_n (pc := 15) C dX9_leftOf_15 rfl ?_
  refine zs_getf (pc := 16) C dX9_leftOf_16 w_X9_91 f_10_52 (by decide) ?_
  refine zs_bipush (pc := 19) C dX9_leftOf_19 (by decide) (by decide) ?_
  refine zs_iload_n (pc := 21) C dX9_leftOf_21 rfl ?_
  first | refine zs_imul (pc := 22) C dX9_leftOf_22 (by omega) ?_ | refine zs_imulF (pc := 22) C dX9_leftOf_22 (fun z22 hz221 hz222 => ?_)
  refine zs_iconst (pc := 23) C dX9_leftOf_23 (by decide) ?_
  refine zs_iload_n (pc := 24) C dX9_leftOf_24 rfl ?_
  first | refine zs_imul (pc := 25) C dX9_leftOf_25 (by omega) ?_ | refine zs_imulF (pc := 25) C dX9_leftOf_25 (fun z25 hz251 hz252 => ?_)
  first | refine zs_iadd (pc := 26) C dX9_leftOf_26 (by omega) ?_ | refine zs_iaddF (pc := 26) C dX9_leftOf_26 (fun z26 hz261 hz262 => ?_)
  refine zs_iload_n (pc := 27) C dX9_leftOf_27 rfl ?_
  first | refine zs_iadd (pc := 28) C dX9_leftOf_28 (by omega) ?_ | refine zs_iaddF (pc := 28) C dX9_leftOf_28 (fun z28 hz281 hz282 => ?_)
  refine zs_iald (r := 2082) (pc := 29) C dX9_leftOf_29 a_82 (by decide) (by omega) rfl (r_2082 _) (fun v29 e29 l29 u29 => ?_)
  refine zs_isubE (pc := 30) C dX9_leftOf_30 ?_
  exact zs_iret (pc := 31) C hr hlk dX9_leftOf_31 ⟨rfl, by rw [e14, e29]⟩

set_option maxHeartbeats 4000000 in
set_option maxRecDepth 100000 in
theorem c_X9_prideOf {l : Launch} {Γ : zΓ} {G : zH} {w : Nat} {b0 p0 : Int} (hX : zXs Γ) (hb : b0 = 0 ∨ b0 = 1)(hp : 0 ≤ p0 ∧ p0 ≤ 4) : zMet l Γ yX9_prideOf cX9_prideOf 5 (some .int) 1 [zr 10 w, zi b0, zi p0] G (zpi (fun x G' => G' = G ∧ True)) := by
  refine zMet_of RX9 hX (by decide) rfl (Nat.le_of_ble_eq_true rfl) ?_
  intro p e s m args below meth c C hr hlk
  show Z p l e (zrm 1) s m args below meth c Γ 5 0 0 (MQ below (zQc Γ (zpi (fun x G' => G' = G ∧ True))) args s 0 0 (zA Γ)) 0 [some (zr 10 w), some (zi b0), some (zi p0), none, none] [] G
  refine zs_loc 1 rfl (fun ha1 hb1 => ?_)
  refine zs_loc 2 rfl (fun ha2 hb2 => ?_)
  refine zs_iconst (pc := 0) C dX9_prideOf_0 (by decide) ?_
  refine zs_istore_n (pc := 1) C dX9_prideOf_1 (by decide) ?_
  dsimp only [zset, zclr, znone]
  refine zs_iconst (pc := 2) C dX9_prideOf_2 (by decide) ?_
  refine zs_istore (pc := 3) C dX9_prideOf_3 (by decide) ?_
  dsimp only [zset, zclr, znone]
  have L5 : ∀ (nn : Nat) (x3 x4 : Int), (0 ≤ x4 ∧ x4 ≤ 4) → (4 - x4).toNat < nn → Z p l e (zrm 1) s m args below meth c Γ 5 0 0 (MQ below (zQc Γ (zpi (fun x G' => G' = G ∧ True))) args s 0 0 (zA Γ)) 5 [some (zr 10 w), some (zi b0), some (zi p0), some (zi x3), some (zi x4)] [] G := by
    intro nn
    induction nn with
    | zero => intro x3 x4 h5_0 hm; exact absurd hm (Nat.not_lt_zero _)
    | succ nn ih5 =>
      intro x3 x4 h5_0 hm5
      refine zs_iload (pc := 5) C dX9_prideOf_5 rfl ?_
      refine zs_aload_n (pc := 7) C dX9_prideOf_7 rfl ?_
      refine zs_geti (r := 1012) (pc := 8) C dX9_prideOf_8 w_X9_258 f_10_12 rfl (r_1012 0) (fun v8 e8 l8 u8 => ?_)
      refine zs_icmp_ge (tgt := 31) (pc := 11) C dX9_prideOf_11 (by decide) (fun h11 => ?_) (fun h11 => ?_)
      · skip
        refine zs_iload_n (pc := 31) C dX9_prideOf_31 rfl ?_
        exact zs_iret (pc := 32) C hr hlk dX9_prideOf_32 ⟨rfl, trivial⟩
      · skip
        refine zs_iload_n (pc := 14) C dX9_prideOf_14 rfl ?_
        refine zs_aload_n (pc := 15) C dX9_prideOf_15 rfl ?_
        refine zs_iload_n (pc := 16) C dX9_prideOf_16 rfl ?_
        refine zs_iload_n (pc := 17) C dX9_prideOf_17 rfl ?_
        refine zs_iload (pc := 18) C dX9_prideOf_18 rfl ?_
        refine zVip3 (pc := 20) C dX9_prideOf_20 v_X9_394 (c_X9_leftOf hX (by omega) (by omega) (by omega)) (by decide) (by decide) ⟨Nat.zero_le _, Nat.zero_le _⟩ (Nat.le_of_ble_eq_true rfl) (fun x20 l20 u20 hp20 => ?_)
        have hq20 := hp20
        first | refine zs_iadd (pc := 23) C dX9_prideOf_23 (by omega) ?_ | refine zs_iaddF (pc := 23) C dX9_prideOf_23 (fun z23 hz231 hz232 => ?_)
        refine zs_istore_n (pc := 24) C dX9_prideOf_24 (by decide) ?_
        dsimp only [zset, zclr, znone]
        first | refine zs_iinc (pc := 25) C dX9_prideOf_25 rfl (by decide) (by omega) ?_ | refine zs_iincF (pc := 25) C dX9_prideOf_25 rfl (by decide) (fun z25 hz251 hz252 => ?_)
        dsimp only [zset, zclr, znone]
        refine zs_goto (tgt := 5) (pc := 28) C dX9_prideOf_28 (by decide) ?_
        exact zs_wk (ih5 _ _ (by first | omega | (simp only [zuI_1, zuI_2, zuJ_1, zuJ_2, zuJ_3, zuP_1, zuP_2, zuP_3, zuC_1, zuC_2, reduceIte, Nat.reduceEqDiff, false_and, and_false, true_and, and_true, and_self, or_true, true_or, or_false, false_or]; omega)) (by first | omega | (simp only [zuI_1, zuI_2, zuJ_1, zuJ_2, zuJ_3, zuP_1, zuP_2, zuP_3, zuC_1, zuC_2, reduceIte, Nat.reduceEqDiff, false_and, and_false, true_and, and_true, and_self, or_true, true_or, or_false, false_or]; omega))) (zwk_s rfl (zwk_s rfl (zwk_s rfl (zwk_s rfl (zwk_s rfl zwk_0)))))
  exact zs_wk (L5 _ _ _ (by first | omega | (simp only [zuI_1, zuI_2, zuJ_1, zuJ_2, zuJ_3, zuP_1, zuP_2, zuP_3, zuC_1, zuC_2, reduceIte, Nat.reduceEqDiff, false_and, and_false, true_and, and_true, and_self, or_true, true_or, or_false, false_or]; omega)) (Nat.lt_succ_self _)) (zwk_s rfl (zwk_s rfl (zwk_s rfl (zwk_s rfl (zwk_s rfl zwk_0)))))

set_option maxHeartbeats 4000000 in
set_option maxRecDepth 100000 in
theorem c_X9_worthLeft {l : Launch} {Γ : zΓ} {G : zH} {w : Nat} {p0 : Int} (hX : zXs Γ) (hp : 0 ≤ p0 ∧ p0 ≤ 4) : zMet l Γ yX9_worthLeft cX9_worthLeft 4 (some .int) 1 [zr 10 w, zi p0] G (zpi (fun x G' => G' = G ∧ True)) := by
  refine zMet_of RX9 hX (by decide) rfl (Nat.le_of_ble_eq_true rfl) ?_
  intro p e s m args below meth c C hr hlk
  show Z p l e (zrm 1) s m args below meth c Γ 4 0 0 (MQ below (zQc Γ (zpi (fun x G' => G' = G ∧ True))) args s 0 0 (zA Γ)) 0 [some (zr 10 w), some (zi p0), none, none] [] G
  refine zs_loc 1 rfl (fun ha1 hb1 => ?_)
  refine zs_iconst (pc := 0) C dX9_worthLeft_0 (by decide) ?_
  refine zs_istore_n (pc := 1) C dX9_worthLeft_1 (by decide) ?_
  dsimp only [zset, zclr, znone]
  refine zs_iconst (pc := 2) C dX9_worthLeft_2 (by decide) ?_
  refine zs_istore_n (pc := 3) C dX9_worthLeft_3 (by decide) ?_
  dsimp only [zset, zclr, znone]
  have L4 : ∀ (nn : Nat) (x2 x3 : Int), (0 ≤ x3 ∧ x3 ≤ 4) → (4 - x3).toNat < nn → Z p l e (zrm 1) s m args below meth c Γ 4 0 0 (MQ below (zQc Γ (zpi (fun x G' => G' = G ∧ True))) args s 0 0 (zA Γ)) 4 [some (zr 10 w), some (zi p0), some (zi x2), some (zi x3)] [] G := by
    intro nn
    induction nn with
    | zero => intro x2 x3 h4_0 hm; exact absurd hm (Nat.not_lt_zero _)
    | succ nn ih4 =>
      intro x2 x3 h4_0 hm4
      refine zs_iload_n (pc := 4) C dX9_worthLeft_4 rfl ?_
      refine zs_aload_n (pc := 5) C dX9_worthLeft_5 rfl ?_
      refine zs_geti (r := 1012) (pc := 6) C dX9_worthLeft_6 w_X9_258 f_10_12 rfl (r_1012 0) (fun v6 e6 l6 u6 => ?_)
      refine zs_icmp_ge (tgt := 35) (pc := 9) C dX9_worthLeft_9 (by decide) (fun h9 => ?_) (fun h9 => ?_)
      · skip
        refine zs_iload_n (pc := 35) C dX9_worthLeft_35 rfl ?_
        exact zs_iret (pc := 36) C hr hlk dX9_worthLeft_36 ⟨rfl, trivial⟩
      · skip
        refine zs_iload_n (pc := 12) C dX9_worthLeft_12 rfl ?_
        refine zs_aload_n (pc := 13) C dX9_worthLeft_13 rfl ?_
        refine zs_getf (pc := 14) C dX9_worthLeft_14 w_X9_30 f_10_25 (by decide) ?_
        refine zs_iload_n (pc := 17) C dX9_worthLeft_17 rfl ?_
        refine zs_iald (r := 2062) (pc := 18) C dX9_worthLeft_18 a_62 (by decide) (by omega) rfl (r_2062 _) (fun v18 e18 l18 u18 => ?_)
        refine zs_aload_n (pc := 19) C dX9_worthLeft_19 rfl ?_
        refine zs_iconst (pc := 20) C dX9_worthLeft_20 (by decide) ?_
        refine zs_iload_n (pc := 21) C dX9_worthLeft_21 rfl ?_
        refine zs_iload_n (pc := 22) C dX9_worthLeft_22 rfl ?_
        refine zVip3 (pc := 23) C dX9_worthLeft_23 v_X9_394 (c_X9_leftOf hX (by omega) (by omega) (by omega)) (by decide) (by decide) ⟨Nat.zero_le _, Nat.zero_le _⟩ (Nat.le_of_ble_eq_true rfl) (fun x23 l23 u23 hp23 => ?_)
        have hq23 := hp23
        first | refine zs_imul (pc := 26) C dX9_worthLeft_26 (by omega) ?_ | refine zs_imulF (pc := 26) C dX9_worthLeft_26 (fun z26 hz261 hz262 => ?_)
        first | refine zs_iadd (pc := 27) C dX9_worthLeft_27 (by omega) ?_ | refine zs_iaddF (pc := 27) C dX9_worthLeft_27 (fun z27 hz271 hz272 => ?_)
        refine zs_istore_n (pc := 28) C dX9_worthLeft_28 (by decide) ?_
        dsimp only [zset, zclr, znone]
        first | refine zs_iinc (pc := 29) C dX9_worthLeft_29 rfl (by decide) (by omega) ?_ | refine zs_iincF (pc := 29) C dX9_worthLeft_29 rfl (by decide) (fun z29 hz291 hz292 => ?_)
        dsimp only [zset, zclr, znone]
        refine zs_goto (tgt := 4) (pc := 32) C dX9_worthLeft_32 (by decide) ?_
        exact zs_wk (ih4 _ _ (by first | omega | (simp only [zuI_1, zuI_2, zuJ_1, zuJ_2, zuJ_3, zuP_1, zuP_2, zuP_3, zuC_1, zuC_2, reduceIte, Nat.reduceEqDiff, false_and, and_false, true_and, and_true, and_self, or_true, true_or, or_false, false_or]; omega)) (by first | omega | (simp only [zuI_1, zuI_2, zuJ_1, zuJ_2, zuJ_3, zuP_1, zuP_2, zuP_3, zuC_1, zuC_2, reduceIte, Nat.reduceEqDiff, false_and, and_false, true_and, and_true, and_self, or_true, true_or, or_false, false_or]; omega))) (zwk_s rfl (zwk_s rfl (zwk_s rfl (zwk_s rfl zwk_0))))
  exact zs_wk (L4 _ _ _ (by first | omega | (simp only [zuI_1, zuI_2, zuJ_1, zuJ_2, zuJ_3, zuP_1, zuP_2, zuP_3, zuC_1, zuC_2, reduceIte, Nat.reduceEqDiff, false_and, and_false, true_and, and_true, and_self, or_true, true_or, or_false, false_or]; omega)) (Nat.lt_succ_self _)) (zwk_s rfl (zwk_s rfl (zwk_s rfl (zwk_s rfl zwk_0))))

set_option maxHeartbeats 4000000 in
set_option maxRecDepth 100000 in
theorem c_X9_compares {l : Launch} {Γ : zΓ} {G : zH} {k a b : Int} (hX : zXs Γ)  : zMet l Γ yX9_compares cX9_compares 5 (some .boolean) 0 [zi k, zj a, zj b] G (zpi (fun x G' => G' = G ∧ (x = 0 ∨ x = 1))) := by
  refine zMet_of RX9 hX (by decide) rfl (Nat.le_of_ble_eq_true rfl) ?_
  intro p e s m args below meth c C hr hlk
  show Z p l e (zrm 0) s m args below meth c Γ 5 0 0 (MQ below (zQc Γ (zpi (fun x G' => G' = G ∧ (x = 0 ∨ x = 1)))) args s 0 0 (zA Γ)) 0 [some (zi k), some (zj a), none, some (zj b), none] [] G
  refine zs_loc 0 rfl (fun ha0 hb0 => ?_)
  refine zs_iload_n (pc := 0) C dX9_compares_0 rfl ?_
  refine zs_name (fun y1 ey1 => ?_)
  rcases (show y1 = 5 ∨ y1 = 6 ∨ y1 = 7 ∨ y1 = 8 ∨ y1 = 9 ∨ (y1 < 5 ∨ 9 < y1) by omega) with h1 | h1 | h1 | h1 | h1 | h1
  · skip
    refine zs_tabIn (pc := 1) (tgt := 36) C 5 dX9_compares_1 h1 (by decide) rfl (by decide) ?_
    refine zs_lload_n (pc := 36) C dX9_compares_36 rfl ?_
    refine zs_lload_n (pc := 37) C dX9_compares_37 rfl ?_
    refine zs_lcmp (pc := 38) C dX9_compares_38 (fun z38 hz38 => ?_)
    refine zs_if_ge (tgt := 46) (pc := 39) C dX9_compares_39 (by decide) (fun h39 => ?_) (fun h39 => ?_)
    · skip
      refine zs_iconst (pc := 46) C dX9_compares_46 (by decide) ?_
      exact zs_zret (pc := 47) C hr hlk dX9_compares_47 (by omega) ⟨rfl, by first | omega | (simp only [zuI_1, zuI_2, zuJ_1, zuJ_2, zuJ_3, zuP_1, zuP_2, zuP_3, zuC_1, zuC_2, reduceIte, Nat.reduceEqDiff, false_and, and_false, true_and, and_true, and_self, or_true, true_or, or_false, false_or]; omega)⟩
    · skip
      refine zs_iconst (pc := 42) C dX9_compares_42 (by decide) ?_
      refine zs_goto (tgt := 47) (pc := 43) C dX9_compares_43 (by decide) ?_
      exact zs_zret (pc := 47) C hr hlk dX9_compares_47 (by omega) ⟨rfl, by first | omega | (simp only [zuI_1, zuI_2, zuJ_1, zuJ_2, zuJ_3, zuP_1, zuP_2, zuP_3, zuC_1, zuC_2, reduceIte, Nat.reduceEqDiff, false_and, and_false, true_and, and_true, and_self, or_true, true_or, or_false, false_or]; omega)⟩
  · skip
    refine zs_tabIn (pc := 1) (tgt := 48) C 6 dX9_compares_1 h1 (by decide) rfl (by decide) ?_
    refine zs_lload_n (pc := 48) C dX9_compares_48 rfl ?_
    refine zs_lload_n (pc := 49) C dX9_compares_49 rfl ?_
    refine zs_lcmp (pc := 50) C dX9_compares_50 (fun z50 hz50 => ?_)
    refine zs_if_gt (tgt := 58) (pc := 51) C dX9_compares_51 (by decide) (fun h51 => ?_) (fun h51 => ?_)
    · skip
      refine zs_iconst (pc := 58) C dX9_compares_58 (by decide) ?_
      exact zs_zret (pc := 59) C hr hlk dX9_compares_59 (by omega) ⟨rfl, by first | omega | (simp only [zuI_1, zuI_2, zuJ_1, zuJ_2, zuJ_3, zuP_1, zuP_2, zuP_3, zuC_1, zuC_2, reduceIte, Nat.reduceEqDiff, false_and, and_false, true_and, and_true, and_self, or_true, true_or, or_false, false_or]; omega)⟩
    · skip
      refine zs_iconst (pc := 54) C dX9_compares_54 (by decide) ?_
      refine zs_goto (tgt := 59) (pc := 55) C dX9_compares_55 (by decide) ?_
      exact zs_zret (pc := 59) C hr hlk dX9_compares_59 (by omega) ⟨rfl, by first | omega | (simp only [zuI_1, zuI_2, zuJ_1, zuJ_2, zuJ_3, zuP_1, zuP_2, zuP_3, zuC_1, zuC_2, reduceIte, Nat.reduceEqDiff, false_and, and_false, true_and, and_true, and_self, or_true, true_or, or_false, false_or]; omega)⟩
  · skip
    refine zs_tabIn (pc := 1) (tgt := 60) C 7 dX9_compares_1 h1 (by decide) rfl (by decide) ?_
    refine zs_lload_n (pc := 60) C dX9_compares_60 rfl ?_
    refine zs_lload_n (pc := 61) C dX9_compares_61 rfl ?_
    refine zs_lcmp (pc := 62) C dX9_compares_62 (fun z62 hz62 => ?_)
    refine zs_if_ne (tgt := 70) (pc := 63) C dX9_compares_63 (by decide) (fun h63 => ?_) (fun h63 => ?_)
    · skip
      refine zs_iconst (pc := 70) C dX9_compares_70 (by decide) ?_
      exact zs_zret (pc := 71) C hr hlk dX9_compares_71 (by omega) ⟨rfl, by first | omega | (simp only [zuI_1, zuI_2, zuJ_1, zuJ_2, zuJ_3, zuP_1, zuP_2, zuP_3, zuC_1, zuC_2, reduceIte, Nat.reduceEqDiff, false_and, and_false, true_and, and_true, and_self, or_true, true_or, or_false, false_or]; omega)⟩
    · skip
      refine zs_iconst (pc := 66) C dX9_compares_66 (by decide) ?_
      refine zs_goto (tgt := 71) (pc := 67) C dX9_compares_67 (by decide) ?_
      exact zs_zret (pc := 71) C hr hlk dX9_compares_71 (by omega) ⟨rfl, by first | omega | (simp only [zuI_1, zuI_2, zuJ_1, zuJ_2, zuJ_3, zuP_1, zuP_2, zuP_3, zuC_1, zuC_2, reduceIte, Nat.reduceEqDiff, false_and, and_false, true_and, and_true, and_self, or_true, true_or, or_false, false_or]; omega)⟩
  · skip
    refine zs_tabIn (pc := 1) (tgt := 72) C 8 dX9_compares_1 h1 (by decide) rfl (by decide) ?_
    refine zs_lload_n (pc := 72) C dX9_compares_72 rfl ?_
    refine zs_lload_n (pc := 73) C dX9_compares_73 rfl ?_
    refine zs_lcmp (pc := 74) C dX9_compares_74 (fun z74 hz74 => ?_)
    refine zs_if_eq (tgt := 82) (pc := 75) C dX9_compares_75 (by decide) (fun h75 => ?_) (fun h75 => ?_)
    · skip
      refine zs_iconst (pc := 82) C dX9_compares_82 (by decide) ?_
      exact zs_zret (pc := 83) C hr hlk dX9_compares_83 (by omega) ⟨rfl, by first | omega | (simp only [zuI_1, zuI_2, zuJ_1, zuJ_2, zuJ_3, zuP_1, zuP_2, zuP_3, zuC_1, zuC_2, reduceIte, Nat.reduceEqDiff, false_and, and_false, true_and, and_true, and_self, or_true, true_or, or_false, false_or]; omega)⟩
    · skip
      refine zs_iconst (pc := 78) C dX9_compares_78 (by decide) ?_
      refine zs_goto (tgt := 83) (pc := 79) C dX9_compares_79 (by decide) ?_
      exact zs_zret (pc := 83) C hr hlk dX9_compares_83 (by omega) ⟨rfl, by first | omega | (simp only [zuI_1, zuI_2, zuJ_1, zuJ_2, zuJ_3, zuP_1, zuP_2, zuP_3, zuC_1, zuC_2, reduceIte, Nat.reduceEqDiff, false_and, and_false, true_and, and_true, and_self, or_true, true_or, or_false, false_or]; omega)⟩
  · skip
    refine zs_tabIn (pc := 1) (tgt := 84) C 9 dX9_compares_1 h1 (by decide) rfl (by decide) ?_
    refine zs_lload_n (pc := 84) C dX9_compares_84 rfl ?_
    refine zs_lload_n (pc := 85) C dX9_compares_85 rfl ?_
    refine zs_lcmp (pc := 86) C dX9_compares_86 (fun z86 hz86 => ?_)
    refine zs_if_lt (tgt := 94) (pc := 87) C dX9_compares_87 (by decide) (fun h87 => ?_) (fun h87 => ?_)
    · skip
      refine zs_iconst (pc := 94) C dX9_compares_94 (by decide) ?_
      exact zs_zret (pc := 95) C hr hlk dX9_compares_95 (by omega) ⟨rfl, by first | omega | (simp only [zuI_1, zuI_2, zuJ_1, zuJ_2, zuJ_3, zuP_1, zuP_2, zuP_3, zuC_1, zuC_2, reduceIte, Nat.reduceEqDiff, false_and, and_false, true_and, and_true, and_self, or_true, true_or, or_false, false_or]; omega)⟩
    · skip
      refine zs_iconst (pc := 90) C dX9_compares_90 (by decide) ?_
      refine zs_goto (tgt := 95) (pc := 91) C dX9_compares_91 (by decide) ?_
      exact zs_zret (pc := 95) C hr hlk dX9_compares_95 (by omega) ⟨rfl, by first | omega | (simp only [zuI_1, zuI_2, zuJ_1, zuJ_2, zuJ_3, zuP_1, zuP_2, zuP_3, zuC_1, zuC_2, reduceIte, Nat.reduceEqDiff, false_and, and_false, true_and, and_true, and_self, or_true, true_or, or_false, false_or]; omega)⟩
  · skip
    refine zs_tabOut (tgt := 96) (pc := 1) C dX9_compares_1 h1 (by decide) ?_
    refine zs_lload_n (pc := 96) C dX9_compares_96 rfl ?_
    refine zs_lload_n (pc := 97) C dX9_compares_97 rfl ?_
    refine zs_lcmp (pc := 98) C dX9_compares_98 (fun z98 hz98 => ?_)
    refine zs_if_le (tgt := 106) (pc := 99) C dX9_compares_99 (by decide) (fun h99 => ?_) (fun h99 => ?_)
    · skip
      refine zs_iconst (pc := 106) C dX9_compares_106 (by decide) ?_
      exact zs_zret (pc := 107) C hr hlk dX9_compares_107 (by omega) ⟨rfl, by first | omega | (simp only [zuI_1, zuI_2, zuJ_1, zuJ_2, zuJ_3, zuP_1, zuP_2, zuP_3, zuC_1, zuC_2, reduceIte, Nat.reduceEqDiff, false_and, and_false, true_and, and_true, and_self, or_true, true_or, or_false, false_or]; omega)⟩
    · skip
      refine zs_iconst (pc := 102) C dX9_compares_102 (by decide) ?_
      refine zs_goto (tgt := 107) (pc := 103) C dX9_compares_103 (by decide) ?_
      exact zs_zret (pc := 107) C hr hlk dX9_compares_107 (by omega) ⟨rfl, by first | omega | (simp only [zuI_1, zuI_2, zuJ_1, zuJ_2, zuJ_3, zuP_1, zuP_2, zuP_3, zuC_1, zuC_2, reduceIte, Nat.reduceEqDiff, false_and, and_false, true_and, and_true, and_self, or_true, true_or, or_false, false_or]; omega)⟩

set_option maxHeartbeats 4000000 in
set_option maxRecDepth 100000 in
theorem c_X9_canGrind {l : Launch} {Γ : zΓ} {G : zH} {w : Nat} {b0 : Int} (hX : zXs Γ) (hb : b0 = 0 ∨ b0 = 1) : zMet l Γ yX9_canGrind cX9_canGrind 2 (some .boolean) 0 [zr 10 w, zi b0] G (zpi (fun x G' => G' = G ∧ ((x = 0 ∨ x = 1) ∧ (x = 1 → 0 < G.1 2088 (Γ.2.1 w 58) b0.toNat ∧ G.1 2087 (Γ.2.1 w 57) b0.toNat ≤ 59)))) := by
  refine zMet_of RX9 hX (by decide) rfl (Nat.le_of_ble_eq_true rfl) ?_
  intro p e s m args below meth c C hr hlk
  show Z p l e (zrm 0) s m args below meth c Γ 2 0 0 (MQ below (zQc Γ (zpi (fun x G' => G' = G ∧ ((x = 0 ∨ x = 1) ∧ (x = 1 → 0 < G.1 2088 (Γ.2.1 w 58) b0.toNat ∧ G.1 2087 (Γ.2.1 w 57) b0.toNat ≤ 59))))) args s 0 0 (zA Γ)) 0 [some (zr 10 w), some (zi b0)] [] G
  refine zs_loc 1 rfl (fun ha1 hb1 => ?_)
  refine zs_aload_n (pc := 0) C dX9_canGrind_0 rfl ?_
  refine zs_getf (pc := 1) C dX9_canGrind_1 w_X9_109 f_10_58 (by decide) ?_
  refine zs_iload_n (pc := 4) C dX9_canGrind_4 rfl ?_
  refine zs_iald (r := 2088) (pc := 5) C dX9_canGrind_5 a_88 (by decide) (by omega) rfl (r_2088 _) (fun v5 e5 l5 u5 => ?_)
  refine zs_if_le (tgt := 24) (pc := 6) C dX9_canGrind_6 (by decide) (fun h6 => ?_) (fun h6 => ?_)
  · skip
    refine zs_iconst (pc := 24) C dX9_canGrind_24 (by decide) ?_
    exact zs_zret (pc := 25) C hr hlk dX9_canGrind_25 (by omega) ⟨rfl, by first | omega | (simp only [zuI_1, zuI_2, zuJ_1, zuJ_2, zuJ_3, zuP_1, zuP_2, zuP_3, zuC_1, zuC_2, reduceIte, Nat.reduceEqDiff, false_and, and_false, true_and, and_true, and_self, or_true, true_or, or_false, false_or]; omega)⟩
  · skip
    refine zs_aload_n (pc := 9) C dX9_canGrind_9 rfl ?_
    refine zs_getf (pc := 10) C dX9_canGrind_10 w_X9_106 f_10_57 (by decide) ?_
    refine zs_iload_n (pc := 13) C dX9_canGrind_13 rfl ?_
    refine zs_iald (r := 2087) (pc := 14) C dX9_canGrind_14 a_87 (by decide) (by omega) rfl (r_2087 _) (fun v14 e14 l14 u14 => ?_)
    refine zs_bipush (pc := 15) C dX9_canGrind_15 (by decide) (by decide) ?_
    refine zs_icmp_ge (tgt := 24) (pc := 17) C dX9_canGrind_17 (by decide) (fun h17 => ?_) (fun h17 => ?_)
    · skip
      refine zs_iconst (pc := 24) C dX9_canGrind_24 (by decide) ?_
      exact zs_zret (pc := 25) C hr hlk dX9_canGrind_25 (by omega) ⟨rfl, by first | omega | (simp only [zuI_1, zuI_2, zuJ_1, zuJ_2, zuJ_3, zuP_1, zuP_2, zuP_3, zuC_1, zuC_2, reduceIte, Nat.reduceEqDiff, false_and, and_false, true_and, and_true, and_self, or_true, true_or, or_false, false_or]; omega)⟩
    · skip
      refine zs_iconst (pc := 20) C dX9_canGrind_20 (by decide) ?_
      refine zs_goto (tgt := 25) (pc := 21) C dX9_canGrind_21 (by decide) ?_
      exact zs_zret (pc := 25) C hr hlk dX9_canGrind_25 (by omega) ⟨rfl, by first | omega | (simp only [zuI_1, zuI_2, zuJ_1, zuJ_2, zuJ_3, zuP_1, zuP_2, zuP_3, zuC_1, zuC_2, reduceIte, Nat.reduceEqDiff, false_and, and_false, true_and, and_true, and_self, or_true, true_or, or_false, false_or]; omega)⟩

set_option maxHeartbeats 4000000 in
set_option maxRecDepth 100000 in
theorem c_X9_flourOf {l : Launch} {Γ : zΓ} {G : zH} {w : Nat} {b0 a : Int} (hX : zXs Γ) (hb : b0 = 0 ∨ b0 = 1) : zMet l Γ yX9_flourOf cX9_flourOf 5 (some .int) 0 [zr 10 w, zi b0, zi a] G (zpi (fun x G' => G' = G ∧ (x = zfl (G.1 2093 (Γ.2.1 w 64)) (G.1 2094 (Γ.2.1 w 65)) a (60 * b0).toNat (G.1 2087 (Γ.2.1 w 57) b0.toNat).toNat))) := by
  refine zMet_of RX9 hX (by decide) rfl (Nat.le_of_ble_eq_true rfl) ?_
  intro p e s m args below meth c C hr hlk
  show Z p l e (zrm 0) s m args below meth c Γ 5 0 0 (MQ below (zQc Γ (zpi (fun x G' => G' = G ∧ (x = zfl (G.1 2093 (Γ.2.1 w 64)) (G.1 2094 (Γ.2.1 w 65)) a (60 * b0).toNat (G.1 2087 (Γ.2.1 w 57) b0.toNat).toNat)))) args s 0 0 (zA Γ)) 0 [some (zr 10 w), some (zi b0), some (zi a), none, none] [] G
  refine zs_loc 1 rfl (fun ha1 hb1 => ?_)
  refine zs_loc 2 rfl (fun ha2 hb2 => ?_)
  refine zs_good (fun hGd => ?_)
  have hHA : ∀ i, 0 ≤ G.1 2094 (Γ.2.1 w 65) i ∧ G.1 2094 (Γ.2.1 w 65) i ≤ 99 := fun i => by have := hGd.1 2094 (Γ.2.1 w 65) i; rw [r_2094] at this; exact this
  refine zs_iconst (pc := 0) C dX9_flourOf_0 (by decide) ?_
  refine zs_istore_n (pc := 1) C dX9_flourOf_1 (by decide) ?_
  dsimp only [zset, zclr, znone]
  refine zs_iconst (pc := 2) C dX9_flourOf_2 (by decide) ?_
  refine zs_istore (pc := 3) C dX9_flourOf_3 (by decide) ?_
  dsimp only [zset, zclr, znone]
  have L5 : ∀ (nn : Nat) (x3 x4 : Int), (0 ≤ x4 ∧ x4 ≤ 60) → (x3 = zfl (G.1 2093 (Γ.2.1 w 64)) (G.1 2094 (Γ.2.1 w 65)) a (60 * b0).toNat x4.toNat) → (x4 ≤ G.1 2087 (Γ.2.1 w 57) b0.toNat) → (60 - x4).toNat < nn → Z p l e (zrm 0) s m args below meth c Γ 5 0 0 (MQ below (zQc Γ (zpi (fun x G' => G' = G ∧ (x = zfl (G.1 2093 (Γ.2.1 w 64)) (G.1 2094 (Γ.2.1 w 65)) a (60 * b0).toNat (G.1 2087 (Γ.2.1 w 57) b0.toNat).toNat)))) args s 0 0 (zA Γ)) 5 [some (zr 10 w), some (zi b0), some (zi a), some (zi x3), some (zi x4)] [] G := by
    intro nn
    induction nn with
    | zero => intro x3 x4 h5_0 h5_1 h5_2 hm; exact absurd hm (Nat.not_lt_zero _)
    | succ nn ih5 =>
      intro x3 x4 h5_0 h5_1 h5_2 hm5
      have hbd := zfl_b (fi := G.1 2093 (Γ.2.1 w 64)) (q := a) (base := (60 * b0).toNat) hHA x4.toNat
      have hst := zfl_step h5_1 (show 0 ≤ 60 * b0 by omega) h5_0.1
      refine zs_iload (pc := 5) C dX9_flourOf_5 rfl ?_
      refine zs_aload_n (pc := 7) C dX9_flourOf_7 rfl ?_
      refine zs_getf (pc := 8) C dX9_flourOf_8 w_X9_106 f_10_57 (by decide) ?_
      refine zs_iload_n (pc := 11) C dX9_flourOf_11 rfl ?_
      refine zs_iald (r := 2087) (pc := 12) C dX9_flourOf_12 a_87 (by decide) (by omega) rfl (r_2087 _) (fun v12 e12 l12 u12 => ?_)
      refine zs_icmp_ge (tgt := 57) (pc := 13) C dX9_flourOf_13 (by decide) (fun h13 => ?_) (fun h13 => ?_)
      · skip
        have hx4 : x4 = G.1 2087 (Γ.2.1 w 57) b0.toNat := by omega
        rw [hx4] at h5_1
        refine zs_iload_n (pc := 57) C dX9_flourOf_57 rfl ?_
        exact zs_iret (pc := 58) C hr hlk dX9_flourOf_58 ⟨rfl, h5_1⟩
      · skip
        refine zs_iload_n (pc := 16) C dX9_flourOf_16 rfl ?_
        refine zs_aload_n (pc := 17) C dX9_flourOf_17 rfl ?_
        refine zs_getf (pc := 18) C dX9_flourOf_18 w_X9_124 f_10_64 (by decide) ?_
        refine zs_bipush (pc := 21) C dX9_flourOf_21 (by decide) (by decide) ?_
        refine zs_iload_n (pc := 23) C dX9_flourOf_23 rfl ?_
        first | refine zs_imul (pc := 24) C dX9_flourOf_24 (by omega) ?_ | refine zs_imulF (pc := 24) C dX9_flourOf_24 (fun z24 hz241 hz242 => ?_)
        refine zs_iload (pc := 25) C dX9_flourOf_25 rfl ?_
        first | refine zs_iadd (pc := 27) C dX9_flourOf_27 (by omega) ?_ | refine zs_iaddF (pc := 27) C dX9_flourOf_27 (fun z27 hz271 hz272 => ?_)
        refine zs_iald (r := 2093) (pc := 28) C dX9_flourOf_28 a_93 (by decide) (by omega) rfl (r_2093 _) (fun v28 e28 l28 u28 => ?_)
        refine zs_iload_n (pc := 29) C dX9_flourOf_29 rfl ?_
        refine zs_icmp_lt (tgt := 48) (pc := 30) C dX9_flourOf_30 (by decide) (fun h30 => ?_) (fun h30 => ?_)
        · skip
          refine zs_iconst (pc := 48) C dX9_flourOf_48 (by decide) ?_
          first | refine zs_iadd (pc := 49) C dX9_flourOf_49 (by omega) ?_ | refine zs_iaddF (pc := 49) C dX9_flourOf_49 (fun z49 hz491 hz492 => ?_)
          refine zs_istore_n (pc := 50) C dX9_flourOf_50 (by decide) ?_
          dsimp only [zset, zclr, znone]
          first | refine zs_iinc (pc := 51) C dX9_flourOf_51 rfl (by decide) (by omega) ?_ | refine zs_iincF (pc := 51) C dX9_flourOf_51 rfl (by decide) (fun z51 hz511 hz512 => ?_)
          dsimp only [zset, zclr, znone]
          refine zs_goto (tgt := 5) (pc := 54) C dX9_flourOf_54 (by decide) ?_
          exact zs_wk (ih5 _ _ (by omega) (by first | exact (by rw [e44]; exact hst.1 (by rw [← e28]; omega)) | exact hst.2 (by rw [← e28]; omega)) (by omega) (by first | omega | (simp only [zuI_1, zuI_2, zuJ_1, zuJ_2, zuJ_3, zuP_1, zuP_2, zuP_3, zuC_1, zuC_2, reduceIte, Nat.reduceEqDiff, false_and, and_false, true_and, and_true, and_self, or_true, true_or, or_false, false_or]; omega))) (zwk_s rfl (zwk_s rfl (zwk_s rfl (zwk_s rfl (zwk_s rfl zwk_0)))))
        · skip
          refine zs_aload_n (pc := 33) C dX9_flourOf_33 rfl ?_
          refine zs_getf (pc := 34) C dX9_flourOf_34 w_X9_127 f_10_65 (by decide) ?_
          refine zs_bipush (pc := 37) C dX9_flourOf_37 (by decide) (by decide) ?_
          refine zs_iload_n (pc := 39) C dX9_flourOf_39 rfl ?_
          first | refine zs_imul (pc := 40) C dX9_flourOf_40 (by omega) ?_ | refine zs_imulF (pc := 40) C dX9_flourOf_40 (fun z40 hz401 hz402 => ?_)
          refine zs_iload (pc := 41) C dX9_flourOf_41 rfl ?_
          first | refine zs_iadd (pc := 43) C dX9_flourOf_43 (by omega) ?_ | refine zs_iaddF (pc := 43) C dX9_flourOf_43 (fun z43 hz431 hz432 => ?_)
          refine zs_iald (r := 2094) (pc := 44) C dX9_flourOf_44 a_94 (by decide) (by omega) rfl (r_2094 _) (fun v44 e44 l44 u44 => ?_)
          refine zs_goto (tgt := 49) (pc := 45) C dX9_flourOf_45 (by decide) ?_
          first | refine zs_iadd (pc := 49) C dX9_flourOf_49 (by omega) ?_ | refine zs_iaddF (pc := 49) C dX9_flourOf_49 (fun z49 hz491 hz492 => ?_)
          refine zs_istore_n (pc := 50) C dX9_flourOf_50 (by decide) ?_
          dsimp only [zset, zclr, znone]
          first | refine zs_iinc (pc := 51) C dX9_flourOf_51 rfl (by decide) (by omega) ?_ | refine zs_iincF (pc := 51) C dX9_flourOf_51 rfl (by decide) (fun z51 hz511 hz512 => ?_)
          dsimp only [zset, zclr, znone]
          refine zs_goto (tgt := 5) (pc := 54) C dX9_flourOf_54 (by decide) ?_
          exact zs_wk (ih5 _ _ (by omega) (by first | exact (by rw [e44]; exact hst.1 (by rw [← e28]; omega)) | exact hst.2 (by rw [← e28]; omega)) (by omega) (by first | omega | (simp only [zuI_1, zuI_2, zuJ_1, zuJ_2, zuJ_3, zuP_1, zuP_2, zuP_3, zuC_1, zuC_2, reduceIte, Nat.reduceEqDiff, false_and, and_false, true_and, and_true, and_self, or_true, true_or, or_false, false_or]; omega))) (zwk_s rfl (zwk_s rfl (zwk_s rfl (zwk_s rfl (zwk_s rfl zwk_0)))))
  exact zs_wk (L5 _ _ _ (by omega) rfl (by have := hGd.1 2087 (Γ.2.1 w 57) b0.toNat; rw [r_2087] at this; exact this.1) (Nat.lt_succ_self _)) (zwk_s rfl (zwk_s rfl (zwk_s rfl (zwk_s rfl (zwk_s rfl zwk_0)))))

