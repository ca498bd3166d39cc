set_option maxHeartbeats 4000000 in
set_option maxRecDepth 100000 in
theorem c_X9_isIn {l : Launch} {Γ : zΓ} {G : zH} {a b q : Int} (hX : zXs Γ)  : zMet l Γ yX9_isIn cX9_isIn 3 (some .boolean) 0 [zi a, zi b, zi q] G (zpi (fun x G' => G' = G ∧ ((x = 0 ∨ x = 1) ∧ (x = 1 ↔ b ≤ a ∧ a ≤ q)))) := by
  refine zMet_of RX9 hX (by decide) rfl (Nat.le_of_ble_eq_true rfl) ?_
  intro p e s m args below meth c C hr hlk
  show Z p l e (zrm 0) s m args below meth c Γ 3 0 0 (MQ below (zQc Γ (zpi (fun x G' => G' = G ∧ ((x = 0 ∨ x = 1) ∧ (x = 1 ↔ b ≤ a ∧ a ≤ q))))) args s 0 0 (zA Γ)) 0 [some (zi a), some (zi b), some (zi q)] [] G
  refine zs_loc 0 rfl (fun ha0 hb0 => ?_)
  refine zs_loc 1 rfl (fun ha1 hb1 => ?_)
  refine zs_loc 2 rfl (fun ha2 hb2 => ?_)
  refine zs_iload_n (pc := 0) C dX9_isIn_0 rfl ?_
  refine zs_iload_n (pc := 1) C dX9_isIn_1 rfl ?_
  refine zs_icmp_lt (tgt := 14) (pc := 2) C dX9_isIn_2 (by decide) (fun h2 => ?_) (fun h2 => ?_)
  · skip
    refine zs_iconst (pc := 14) C dX9_isIn_14 (by decide) ?_
    exact zs_zret (pc := 15) C hr hlk dX9_isIn_15 (by omega) ⟨rfl, by first | omega | (simp only [zuI_1, zuI_2, zuJ_1, zuJ_2, zuJ_3, zuP_1, zuP_2, zuP_3, zuC_1, zuC_2, reduceIte, Nat.reduceEqDiff, false_and, and_false, true_and, and_true, and_self, or_true, true_or, or_false, false_or]; omega)⟩
  · skip
    refine zs_iload_n (pc := 5) C dX9_isIn_5 rfl ?_
    refine zs_iload_n (pc := 6) C dX9_isIn_6 rfl ?_
    refine zs_icmp_gt (tgt := 14) (pc := 7) C dX9_isIn_7 (by decide) (fun h7 => ?_) (fun h7 => ?_)
    · skip
      refine zs_iconst (pc := 14) C dX9_isIn_14 (by decide) ?_
      exact zs_zret (pc := 15) C hr hlk dX9_isIn_15 (by omega) ⟨rfl, by first | omega | (simp only [zuI_1, zuI_2, zuJ_1, zuJ_2, zuJ_3, zuP_1, zuP_2, zuP_3, zuC_1, zuC_2, reduceIte, Nat.reduceEqDiff, false_and, and_false, true_and, and_true, and_self, or_true, true_or, or_false, false_or]; omega)⟩
    · skip
      refine zs_iconst (pc := 10) C dX9_isIn_10 (by decide) ?_
      refine zs_goto (tgt := 15) (pc := 11) C dX9_isIn_11 (by decide) ?_
      exact zs_zret (pc := 15) C hr hlk dX9_isIn_15 (by omega) ⟨rfl, by first | omega | (simp only [zuI_1, zuI_2, zuJ_1, zuJ_2, zuJ_3, zuP_1, zuP_2, zuP_3, zuC_1, zuC_2, reduceIte, Nat.reduceEqDiff, false_and, and_false, true_and, and_true, and_self, or_true, true_or, or_false, false_or]; omega)⟩

set_option maxHeartbeats 4000000 in
set_option maxRecDepth 100000 in
theorem c_X9_isOf {l : Launch} {Γ : zΓ} {G : zH} {a b : Int} (hX : zXs Γ)  : zMet l Γ yX9_isOf cX9_isOf 2 (some .boolean) 0 [zi a, zi b] G (zpi (fun x G' => G' = G ∧ (x = 0 ∨ x = 1))) := by
  refine zMet_of RX9 hX (by decide) rfl (Nat.le_of_ble_eq_true rfl) ?_
  intro p e s m args below meth c C hr hlk
  show Z p l e (zrm 0) s m args below meth c Γ 2 0 0 (MQ below (zQc Γ (zpi (fun x G' => G' = G ∧ (x = 0 ∨ x = 1)))) args s 0 0 (zA Γ)) 0 [some (zi a), some (zi b)] [] G
  refine zs_loc 0 rfl (fun ha0 hb0 => ?_)
  refine zs_loc 1 rfl (fun ha1 hb1 => ?_)
  refine zs_iload_n (pc := 0) C dX9_isOf_0 rfl ?_
  refine zs_iload_n (pc := 1) C dX9_isOf_1 rfl ?_
  refine zs_ishrF (pc := 2) C dX9_isOf_2 (fun z2 hz21 hz22 => ?_)
  refine zs_iconst (pc := 3) C dX9_isOf_3 (by decide) ?_
  first | refine zs_iand (pc := 4) C 1 dX9_isOf_4 (by decide) (by decide) (fun z4 hz41 hz42 => ?_) | refine zs_iand (pc := 4) C 2 dX9_isOf_4 (by decide) (by decide) (fun z4 hz41 hz42 => ?_) | refine zs_iand (pc := 4) C 8 dX9_isOf_4 (by decide) (by decide) (fun z4 hz41 hz42 => ?_) | refine zs_iandF (pc := 4) C dX9_isOf_4 (fun z4 hz41 hz42 => ?_)
  refine zs_iconst (pc := 5) C dX9_isOf_5 (by decide) ?_
  refine zs_icmp_ne (tgt := 13) (pc := 6) C dX9_isOf_6 (by decide) (fun h6 => ?_) (fun h6 => ?_)
  · skip
    refine zs_iconst (pc := 13) C dX9_isOf_13 (by decide) ?_
    exact zs_zret (pc := 14) C hr hlk dX9_isOf_14 (by omega) ⟨rfl, by first | omega | (simp only [zuI_1, zuI_2, zuJ_1, zuJ_2, zuJ_3, zuP_1, zuP_2, zuP_3, zuC_1, zuC_2, reduceIte, Nat.reduceEqDiff, false_and, and_false, true_and, and_true, and_self, or_true, true_or, or_false, false_or]; omega)⟩
  · skip
    refine zs_iconst (pc := 9) C dX9_isOf_9 (by decide) ?_
    refine zs_goto (tgt := 14) (pc := 10) C dX9_isOf_10 (by decide) ?_
    exact zs_zret (pc := 14) C hr hlk dX9_isOf_14 (by omega) ⟨rfl, by first | omega | (simp only [zuI_1, zuI_2, zuJ_1, zuJ_2, zuJ_3, zuP_1, zuP_2, zuP_3, zuC_1, zuC_2, reduceIte, Nat.reduceEqDiff, false_and, and_false, true_and, and_true, and_self, or_true, true_or, or_false, false_or]; omega)⟩

set_option maxHeartbeats 4000000 in
set_option maxRecDepth 100000 in
theorem c_X9_rank {l : Launch} {Γ : zΓ} {G : zH} {k : Int} (hX : zXs Γ)  : zMet l Γ yX9_rank cX9_rank 1 (some .int) 0 [zi k] G (zpi (fun x G' => G' = G ∧ ((k ≥ 13 → x = 6) ∧ (11 ≤ k → k < 13 → x = 5) ∧ (5 ≤ k → k < 11 → x = 4) ∧ (k = 2 → x = 3) ∧ (k = 3 → x = 2) ∧ (k = 4 → x = 1) ∧ (k < 2 → x = 0)))) := by
  refine zMet_of RX9 hX (by decide) rfl (Nat.le_of_ble_eq_true rfl) ?_
  intro p e s m args below meth c C hr hlk
  show Z p l e (zrm 0) s m args below meth c Γ 1 0 0 (MQ below (zQc Γ (zpi (fun x G' => G' = G ∧ ((k ≥ 13 → x = 6) ∧ (11 ≤ k → k < 13 → x = 5) ∧ (5 ≤ k → k < 11 → x = 4) ∧ (k = 2 → x = 3) ∧ (k = 3 → x = 2) ∧ (k = 4 → x = 1) ∧ (k < 2 → x = 0))))) args s 0 0 (zA Γ)) 0 [some (zi k)] [] G
  refine zs_loc 0 rfl (fun ha0 hb0 => ?_)
  refine zs_iload_n (pc := 0) C dX9_rank_0 rfl ?_
  refine zs_bipush (pc := 1) C dX9_rank_1 (by decide) (by decide) ?_
  refine zs_icmp_lt (tgt := 11) (pc := 3) C dX9_rank_3 (by decide) (fun h3 => ?_) (fun h3 => ?_)
  · skip
    refine zs_iload_n (pc := 11) C dX9_rank_11 rfl ?_
    refine zs_bipush (pc := 12) C dX9_rank_12 (by decide) (by decide) ?_
    refine zs_icmp_lt (tgt := 21) (pc := 14) C dX9_rank_14 (by decide) (fun h14 => ?_) (fun h14 => ?_)
    · skip
      refine zs_iload_n (pc := 21) C dX9_rank_21 rfl ?_
      refine zs_iconst (pc := 22) C dX9_rank_22 (by decide) ?_
      refine zs_icmp_lt (tgt := 30) (pc := 23) C dX9_rank_23 (by decide) (fun h23 => ?_) (fun h23 => ?_)
      · skip
        refine zs_iload_n (pc := 30) C dX9_rank_30 rfl ?_
        refine zs_iconst (pc := 31) C dX9_rank_31 (by decide) ?_
        refine zs_icmp_ne (tgt := 39) (pc := 32) C dX9_rank_32 (by decide) (fun h32 => ?_) (fun h32 => ?_)
        · skip
          refine zs_iload_n (pc := 39) C dX9_rank_39 rfl ?_
          refine zs_iconst (pc := 40) C dX9_rank_40 (by decide) ?_
          refine zs_icmp_ne (tgt := 48) (pc := 41) C dX9_rank_41 (by decide) (fun h41 => ?_) (fun h41 => ?_)
          · skip
            refine zs_iload_n (pc := 48) C dX9_rank_48 rfl ?_
            refine zs_iconst (pc := 49) C dX9_rank_49 (by decide) ?_
            refine zs_icmp_ne (tgt := 57) (pc := 50) C dX9_rank_50 (by decide) (fun h50 => ?_) (fun h50 => ?_)
            · skip
              refine zs_iconst (pc := 57) C dX9_rank_57 (by decide) ?_
              exact zs_iret (pc := 58) C hr hlk dX9_rank_58 ⟨rfl, by first | omega | (simp only [zuI_1, zuI_2, zuJ_1, zuJ_2, zuJ_3, zuP_1, zuP_2, zuP_3, zuC_1, zuC_2, reduceIte, Nat.reduceEqDiff, false_and, and_false, true_and, and_true, and_self, or_true, true_or, or_false, false_or]; omega)⟩
            · skip
              refine zs_iconst (pc := 53) C dX9_rank_53 (by decide) ?_
              refine zs_goto (tgt := 58) (pc := 54) C dX9_rank_54 (by decide) ?_
              exact zs_iret (pc := 58) C hr hlk dX9_rank_58 ⟨rfl, by first | omega | (simp only [zuI_1, zuI_2, zuJ_1, zuJ_2, zuJ_3, zuP_1, zuP_2, zuP_3, zuC_1, zuC_2, reduceIte, Nat.reduceEqDiff, false_and, and_false, true_and, and_true, and_self, or_true, true_or, or_false, false_or]; omega)⟩
          · skip
            refine zs_iconst (pc := 44) C dX9_rank_44 (by decide) ?_
            refine zs_goto (tgt := 58) (pc := 45) C dX9_rank_45 (by decide) ?_
            exact zs_iret (pc := 58) C hr hlk dX9_rank_58 ⟨rfl, by first | omega | (simp only [zuI_1, zuI_2, zuJ_1, zuJ_2, zuJ_3, zuP_1, zuP_2, zuP_3, zuC_1, zuC_2, reduceIte, Nat.reduceEqDiff, false_and, and_false, true_and, and_true, and_self, or_true, true_or, or_false, false_or]; omega)⟩
        · skip
          refine zs_iconst (pc := 35) C dX9_rank_35 (by decide) ?_
          refine zs_goto (tgt := 58) (pc := 36) C dX9_rank_36 (by decide) ?_
          exact zs_iret (pc := 58) C hr hlk dX9_rank_58 ⟨rfl, by first | omega | (simp only [zuI_1, zuI_2, zuJ_1, zuJ_2, zuJ_3, zuP_1, zuP_2, zuP_3, zuC_1, zuC_2, reduceIte, Nat.reduceEqDiff, false_and, and_false, true_and, and_true, and_self, or_true, true_or, or_false, false_or]; omega)⟩
      · skip
        refine zs_iconst (pc := 26) C dX9_rank_26 (by decide) ?_
        refine zs_goto (tgt := 58) (pc := 27) C dX9_rank_27 (by decide) ?_
        exact zs_iret (pc := 58) C hr hlk dX9_rank_58 ⟨rfl, by first | omega | (simp only [zuI_1, zuI_2, zuJ_1, zuJ_2, zuJ_3, zuP_1, zuP_2, zuP_3, zuC_1, zuC_2, reduceIte, Nat.reduceEqDiff, false_and, and_false, true_and, and_true, and_self, or_true, true_or, or_false, false_or]; omega)⟩
    · skip
      refine zs_iconst (pc := 17) C dX9_rank_17 (by decide) ?_
      refine zs_goto (tgt := 58) (pc := 18) C dX9_rank_18 (by decide) ?_
      exact zs_iret (pc := 58) C hr hlk dX9_rank_58 ⟨rfl, by first | omega | (simp only [zuI_1, zuI_2, zuJ_1, zuJ_2, zuJ_3, zuP_1, zuP_2, zuP_3, zuC_1, zuC_2, reduceIte, Nat.reduceEqDiff, false_and, and_false, true_and, and_true, and_self, or_true, true_or, or_false, false_or]; omega)⟩
  · skip
    refine zs_bipush (pc := 6) C dX9_rank_6 (by decide) (by decide) ?_
    refine zs_goto (tgt := 58) (pc := 8) C dX9_rank_8 (by decide) ?_
    exact zs_iret (pc := 58) C hr hlk dX9_rank_58 ⟨rfl, by first | omega | (simp only [zuI_1, zuI_2, zuJ_1, zuJ_2, zuJ_3, zuP_1, zuP_2, zuP_3, zuC_1, zuC_2, reduceIte, Nat.reduceEqDiff, false_and, and_false, true_and, and_true, and_self, or_true, true_or, or_false, false_or]; omega)⟩

set_option maxHeartbeats 4000000 in
set_option maxRecDepth 100000 in
theorem c_X9_isPerson {l : Launch} {Γ : zΓ} {G : zH} {w : Nat} {p0 : Int} (hX : zXs Γ)  : zMet l Γ yX9_isPerson cX9_isPerson 2 (some .boolean) 0 [zr 10 w, zi p0] G (zpi (fun x G' => G' = G ∧ ((x = 0 ∨ x = 1) ∧ (x = 1 → 0 ≤ p0 ∧ p0 ≤ 4)))) := by
  refine zMet_of RX9 hX (by decide) rfl (Nat.le_of_ble_eq_true rfl) ?_
  intro p e s m args below meth c C hr hlk
  show Z p l e (zrm 0) s m args below meth c Γ 2 0 0 (MQ below (zQc Γ (zpi (fun x G' => G' = G ∧ ((x = 0 ∨ x = 1) ∧ (x = 1 → 0 ≤ p0 ∧ p0 ≤ 4))))) args s 0 0 (zA Γ)) 0 [some (zr 10 w), some (zi p0)] [] G
  refine zs_loc 1 rfl (fun ha1 hb1 => ?_)
  refine zs_iload_n (pc := 0) C dX9_isPerson_0 rfl ?_
  refine zs_if_lt (tgt := 16) (pc := 1) C dX9_isPerson_1 (by decide) (fun h1 => ?_) (fun h1 => ?_)
  · skip
    refine zs_iconst (pc := 16) C dX9_isPerson_16 (by decide) ?_
    exact zs_zret (pc := 17) C hr hlk dX9_isPerson_17 (by omega) ⟨rfl, by first | omega | (simp only [zuI_1, zuI_2, zuJ_1, zuJ_2, zuJ_3, zuP_1, zuP_2, zuP_3, zuC_1, zuC_2, reduceIte, Nat.reduceEqDiff, false_and, and_false, true_and, and_true, and_self, or_true, true_or, or_false, false_or]; omega)⟩
  · skip
    refine zs_iload_n (pc := 4) C dX9_isPerson_4 rfl ?_
    refine zs_aload_n (pc := 5) C dX9_isPerson_5 rfl ?_
    refine zs_geti (r := 1013) (pc := 6) C dX9_isPerson_6 w_X9_261 f_10_13 rfl (r_1013 0) (fun v6 e6 l6 u6 => ?_)
    refine zs_icmp_ge (tgt := 16) (pc := 9) C dX9_isPerson_9 (by decide) (fun h9 => ?_) (fun h9 => ?_)
    · skip
      refine zs_iconst (pc := 16) C dX9_isPerson_16 (by decide) ?_
      exact zs_zret (pc := 17) C hr hlk dX9_isPerson_17 (by omega) ⟨rfl, by first | omega | (simp only [zuI_1, zuI_2, zuJ_1, zuJ_2, zuJ_3, zuP_1, zuP_2, zuP_3, zuC_1, zuC_2, reduceIte, Nat.reduceEqDiff, false_and, and_false, true_and, and_true, and_self, or_true, true_or, or_false, false_or]; omega)⟩
    · skip
      refine zs_iconst (pc := 12) C dX9_isPerson_12 (by decide) ?_
      refine zs_goto (tgt := 17) (pc := 13) C dX9_isPerson_13 (by decide) ?_
      exact zs_zret (pc := 17) C hr hlk dX9_isPerson_17 (by omega) ⟨rfl, by first | omega | (simp only [zuI_1, zuI_2, zuJ_1, zuJ_2, zuJ_3, zuP_1, zuP_2, zuP_3, zuC_1, zuC_2, reduceIte, Nat.reduceEqDiff, false_and, and_false, true_and, and_true, and_self, or_true, true_or, or_false, false_or]; omega)⟩

set_option maxHeartbeats 4000000 in
set_option maxRecDepth 100000 in
theorem c_X9_isSin {l : Launch} {Γ : zΓ} {G : zH} {w : Nat} {p0 : Int} (hX : zXs Γ)  : zMet l Γ yX9_isSin cX9_isSin 2 (some .boolean) 0 [zr 10 w, zi p0] G (zpi (fun x G' => G' = G ∧ ((x = 0 ∨ x = 1) ∧ (x = 1 → 0 ≤ p0 ∧ p0 ≤ 3)))) := by
  refine zMet_of RX9 hX (by decide) rfl (Nat.le_of_ble_eq_true rfl) ?_
  intro p e s m args below meth c C hr hlk
  show Z p l e (zrm 0) s m args below meth c Γ 2 0 0 (MQ below (zQc Γ (zpi (fun x G' => G' = G ∧ ((x = 0 ∨ x = 1) ∧ (x = 1 → 0 ≤ p0 ∧ p0 ≤ 3))))) args s 0 0 (zA Γ)) 0 [some (zr 10 w), some (zi p0)] [] G
  refine zs_loc 1 rfl (fun ha1 hb1 => ?_)
  refine zs_iload_n (pc := 0) C dX9_isSin_0 rfl ?_
  refine zs_if_lt (tgt := 16) (pc := 1) C dX9_isSin_1 (by decide) (fun h1 => ?_) (fun h1 => ?_)
  · skip
    refine zs_iconst (pc := 16) C dX9_isSin_16 (by decide) ?_
    exact zs_zret (pc := 17) C hr hlk dX9_isSin_17 (by omega) ⟨rfl, by first | omega | (simp only [zuI_1, zuI_2, zuJ_1, zuJ_2, zuJ_3, zuP_1, zuP_2, zuP_3, zuC_1, zuC_2, reduceIte, Nat.reduceEqDiff, false_and, and_false, true_and, and_true, and_self, or_true, true_or, or_false, false_or]; omega)⟩
  · skip
    refine zs_iload_n (pc := 4) C dX9_isSin_4 rfl ?_
    refine zs_aload_n (pc := 5) C dX9_isSin_5 rfl ?_
    refine zs_geti (r := 1012) (pc := 6) C dX9_isSin_6 w_X9_258 f_10_12 rfl (r_1012 0) (fun v6 e6 l6 u6 => ?_)
    refine zs_icmp_ge (tgt := 16) (pc := 9) C dX9_isSin_9 (by decide) (fun h9 => ?_) (fun h9 => ?_)
    · skip
      refine zs_iconst (pc := 16) C dX9_isSin_16 (by decide) ?_
      exact zs_zret (pc := 17) C hr hlk dX9_isSin_17 (by omega) ⟨rfl, by first | omega | (simp only [zuI_1, zuI_2, zuJ_1, zuJ_2, zuJ_3, zuP_1, zuP_2, zuP_3, zuC_1, zuC_2, reduceIte, Nat.reduceEqDiff, false_and, and_false, true_and, and_true, and_self, or_true, true_or, or_false, false_or]; omega)⟩
    · skip
      refine zs_iconst (pc := 12) C dX9_isSin_12 (by decide) ?_
      refine zs_goto (tgt := 17) (pc := 13) C dX9_isSin_13 (by decide) ?_
      exact zs_zret (pc := 17) C hr hlk dX9_isSin_17 (by omega) ⟨rfl, by first | omega | (simp only [zuI_1, zuI_2, zuJ_1, zuJ_2, zuJ_3, zuP_1, zuP_2, zuP_3, zuC_1, zuC_2, reduceIte, Nat.reduceEqDiff, false_and, and_false, true_and, and_true, and_self, or_true, true_or, or_false, false_or]; omega)⟩

set_option maxHeartbeats 4000000 in
set_option maxRecDepth 100000 in
theorem c_X9_isCake {l : Launch} {Γ : zΓ} {G : zH} {w : Nat} {p0 : Int} (hX : zXs Γ)  : zMet l Γ yX9_isCake cX9_isCake 2 (some .boolean) 0 [zr 10 w, zi p0] G (zpi (fun x G' => G' = G ∧ ((x = 0 ∨ x = 1) ∧ (x = 1 → 0 ≤ p0 ∧ p0 ≤ 4)))) := by
  refine zMet_of RX9 hX (by decide) rfl (Nat.le_of_ble_eq_true rfl) ?_
  intro p e s m args below meth c C hr hlk
  show Z p l e (zrm 0) s m args below meth c Γ 2 0 0 (MQ below (zQc Γ (zpi (fun x G' => G' = G ∧ ((x = 0 ∨ x = 1) ∧ (x = 1 → 0 ≤ p0 ∧ p0 ≤ 4))))) args s 0 0 (zA Γ)) 0 [some (zr 10 w), some (zi p0)] [] G
  refine zs_loc 1 rfl (fun ha1 hb1 => ?_)
  refine zs_iload_n (pc := 0) C dX9_isCake_0 rfl ?_
  refine zs_if_lt (tgt := 16) (pc := 1) C dX9_isCake_1 (by decide) (fun h1 => ?_) (fun h1 => ?_)
  · skip
    refine zs_iconst (pc := 16) C dX9_isCake_16 (by decide) ?_
    exact zs_zret (pc := 17) C hr hlk dX9_isCake_17 (by omega) ⟨rfl, by first | omega | (simp only [zuI_1, zuI_2, zuJ_1, zuJ_2, zuJ_3, zuP_1, zuP_2, zuP_3, zuC_1, zuC_2, reduceIte, Nat.reduceEqDiff, false_and, and_false, true_and, and_true, and_self, or_true, true_or, or_false, false_or]; omega)⟩
  · skip
    refine zs_iload_n (pc := 4) C dX9_isCake_4 rfl ?_
    refine zs_aload_n (pc := 5) C dX9_isCake_5 rfl ?_
    refine zs_geti (r := 1014) (pc := 6) C dX9_isCake_6 w_X9_264 f_10_14 rfl (r_1014 0) (fun v6 e6 l6 u6 => ?_)
    refine zs_icmp_ge (tgt := 16) (pc := 9) C dX9_isCake_9 (by decide) (fun h9 => ?_) (fun h9 => ?_)
    · skip
      refine zs_iconst (pc := 16) C dX9_isCake_16 (by decide) ?_
      exact zs_zret (pc := 17) C hr hlk dX9_isCake_17 (by omega) ⟨rfl, by first | omega | (simp only [zuI_1, zuI_2, zuJ_1, zuJ_2, zuJ_3, zuP_1, zuP_2, zuP_3, zuC_1, zuC_2, reduceIte, Nat.reduceEqDiff, false_and, and_false, true_and, and_true, and_self, or_true, true_or, or_false, false_or]; omega)⟩
    · skip
      refine zs_iconst (pc := 12) C dX9_isCake_12 (by decide) ?_
      refine zs_goto (tgt := 17) (pc := 13) C dX9_isCake_13 (by decide) ?_
      exact zs_zret (pc := 17) C hr hlk dX9_isCake_17 (by omega) ⟨rfl, by first | omega | (simp only [zuI_1, zuI_2, zuJ_1, zuJ_2, zuJ_3, zuP_1, zuP_2, zuP_3, zuC_1, zuC_2, reduceIte, Nat.reduceEqDiff, false_and, and_false, true_and, and_true, and_self, or_true, true_or, or_false, false_or]; omega)⟩

set_option maxHeartbeats 4000000 in
set_option maxRecDepth 100000 in
theorem c_X9_fails {l : Launch} {Γ : zΓ} {G : zH} {w : Nat} {k : Int} (hX : zXs Γ)  : zMet l Γ yX9_fails cX9_fails 2 (some .int) 0 [zr 10 w, zi k] G (zpi (fun x G' => zsm [1002] G G' ∧ True)) := by
  refine zMet_of RX9 hX (by decide) rfl (Nat.le_of_ble_eq_true rfl) ?_
  intro p e s m args below meth c C hr hlk
  show Z p l e (zrm 0) s m args below meth c Γ 2 0 0 (MQ below (zQc Γ (zpi (fun x G' => zsm [1002] G G' ∧ True))) args s 0 0 (zA Γ)) 0 [some (zr 10 w), some (zi k)] [] G
  refine zs_loc 1 rfl (fun ha1 hb1 => ?_)
  refine zs_aload_n (pc := 0) C dX9_fails_0 rfl ?_
  refine zs_iload_n (pc := 1) C dX9_fails_1 rfl ?_
  refine zs_puti (r := 1002) (pc := 2) C dX9_fails_2 w_X9_178 f_10_2 rfl (r_1002 0) (by omega) ?_
  refine zs_iconst (pc := 5) C dX9_fails_5 (by decide) ?_
  exact zs_iret (pc := 6) C hr hlk dX9_fails_6 ⟨by repeat (first | exact zsm_rf | assumption | refine zsm_C (by decide) ?_ | refine zsm_I (by decide) ?_ | refine zsm_J ?_ | refine zsm_c (by assumption) (by decide) ?_), trivial⟩

set_option maxHeartbeats 4000000 in
set_option maxRecDepth 100000 in
theorem c_X9_leftOf {l : Launch} {Γ : zΓ} {G : zH} {w : Nat} {b0 p0 s0 : Int} (hX : zXs Γ) (hb : b0 = 0 ∨ b0 = 1)(hp : 0 ≤ p0 ∧ p0 ≤ 4)(hs : 0 ≤ s0 ∧ s0 ≤ 3) : zMet l Γ yX9_leftOf cX9_leftOf 4 (some .int) 0 [zr 10 w, zi b0, zi p0, zi s0] G (zpi (fun x G' => G' = G ∧ (x = wr (G.1 2081 (Γ.2.1 w 51) (20 * b0 + 4 * p0 + s0).toNat - G.1 2082 (Γ.2.1 w 52) (20 * b0 + 4 * p0 + s0).toNat)))) := by
  refine zMet_of RX9 hX (by decide) rfl (Nat.le_of_ble_eq_true rfl) ?_
  intro p e s m args below meth c C hr hlk
  show Z p l e (zrm 0) s m args below meth c Γ 4 0 0 (MQ below (zQc Γ (zpi (fun x G' => G' = G ∧ (x = wr (G.1 2081 (Γ.2.1 w 51) (20 * b0 + 4 * p0 + s0).toNat - G.1 2082 (Γ.2.1 w 52) (20 * b0 + 4 * p0 + s0).toNat))))) args s 0 0 (zA Γ)) 0 [some (zr 10 w), some (zi b0), some (zi p0), some (zi s0)] [] G
  refine zs_loc 1 rfl (fun ha1 hb1 => ?_)
  refine zs_loc 2 rfl (fun ha2 hb2 => ?_)
  refine zs_loc 3 rfl (fun ha3 hb3 => ?_)
  refine zs_aload_n (pc := 0) C dX9_leftOf_0 rfl ?_
  refine zs_getf (pc := 1) C dX9_leftOf_1 w_X9_88 f_10_51 (by decide) ?_
  refine zs_bipush (pc := 4) C dX9_leftOf_4 (by decide) (by decide) ?_
  refine zs_iload_n (pc := 6) C dX9_leftOf_6 rfl ?_
  first | refine zs_imul (pc := 7) C dX9_leftOf_7 (by omega) ?_ | refine zs_imulF (pc := 7) C dX9_leftOf_7 (fun z7 hz71 hz72 => ?_)
  refine zs_iconst (pc := 8) C dX9_leftOf_8 (by decide) ?_
  refine zs_iload_n (pc := 9) C dX9_leftOf_9 rfl ?_
  first | refine zs_imul (pc := 10) C dX9_leftOf_10 (by omega) ?_ | refine zs_imulF (pc := 10) C dX9_leftOf_10 (fun z10 hz101 hz102 => ?_)
  first | refine zs_iadd (pc := 11) C dX9_leftOf_11 (by omega) ?_ | refine zs_iaddF (pc := 11) C dX9_leftOf_11 (fun z11 hz111 hz112 => ?_)
  refine zs_iload_n (pc := 12) C dX9_leftOf_12 rfl ?_
  first | refine zs_iadd (pc := 13) C dX9_leftOf_13 (by omega) ?_ | refine zs_iaddF (pc := 13) C dX9_leftOf_13 (fun z13 hz131 hz132 => ?_)
  refine zs_iald (r := 2081) (pc := 14) C dX9_leftOf_14 a_81 (by decide) (by omega) rfl (r_2081 _) (fun v14 e14 l14 u14 => ?_)
  refine zs_aload_n (pc := 15) C dX9_leftOf_15 rfl ?_
  refine zs_getf (pc := 16) C dX9_leftOf_16 w_X9_91 f_10_52 (by decide) ?_
  refine zs_bipush (pc := 19) C dX9_leftOf_19 (by decide) (by decide) ?_
  refine zs_iload_n (pc := 21) C dX9_leftOf_21 rfl ?_
  first | refine zs_imul (pc := 22) C dX9_leftOf_22 (by omega) ?_ | refine zs_imulF (pc := 22) C dX9_leftOf_22 (fun z22 hz221 hz222 => ?_)
  refine zs_iconst (pc := 23) C dX9_leftOf_23 (by decide) ?_
  refine zs_iload_n (pc := 24) C dX9_leftOf_24 rfl ?_
  first | refine zs_imul (pc := 25) C dX9_leftOf_25 (by omega) ?_ | refine zs_imulF (pc := 25) C dX9_leftOf_25 (fun z25 hz251 hz252 => ?_)
  first | refine zs_iadd (pc := 26) C dX9_leftOf_26 (by omega) ?_ | refine zs_iaddF (pc := 26) C dX9_leftOf_26 (fun z26 hz261 hz262 => ?_)
  refine zs_iload_n (pc := 27) C dX9_leftOf_27 rfl ?_
  first | refine zs_iadd (pc := 28) C dX9_leftOf_28 (by omega) ?_ | refine zs_iaddF (pc := 28) C dX9_leftOf_28 (fun z28 hz281 hz282 => ?_)
  refine zs_iald (r := 2082) (pc := 29) C dX9_leftOf_29 a_82 (by decide) (by omega) rfl (r_2082 _) (fun v29 e29 l29 u29 => ?_)
  refine zs_isubE (pc := 30) C dX9_leftOf_30 ?_
  exact zs_iret (pc := 31) C hr hlk dX9_leftOf_31 ⟨rfl, by rw [e14, e29]⟩

set_option maxHeartbeats 4000000 in
set_option maxRecDepth 100000 in
theorem c_X9_prideOf {l : Launch} {Γ : zΓ} {G : zH} {w : Nat} {b0 p0 : Int} (hX : zXs Γ) (hb : b0 = 0 ∨ b0 = 1)(hp : 0 ≤ p0 ∧ p0 ≤ 4) : zMet l Γ yX9_prideOf cX9_prideOf 5 (some .int) 1 [zr 10 w, zi b0, zi p0] G (zpi (fun x G' => G' = G ∧ True)) := by
  refine zMet_of RX9 hX (by decide) rfl (Nat.le_of_ble_eq_true rfl) ?_
  intro p e s m args below meth c C hr hlk
  show Z p l e (zrm 1) s m args below meth c Γ 5 0 0 (MQ below (zQc Γ (zpi (fun x G' => G' = G ∧ True))) args s 0 0 (zA Γ)) 0 [some (zr 10 w), some (zi b0), some (zi p0), none, none] [] G
  refine zs_loc 1 rfl (fun ha1 hb1 => ?_)
  refine zs_loc 2 rfl (fun ha2 hb2 => ?_)
  refine zs_iconst (pc := 0) C dX9_prideOf_0 (by decide) ?_
  refine zs_istore_n (pc := 1) C dX9_prideOf_1 (by decide) ?_
  dsimp only [zset, zclr, znone]
  refine zs_iconst (pc := 2) C dX9_prideOf_2 (by decide) ?_
  refine zs_istore (pc := 3) C dX9_prideOf_3 (by decide) ?_
  dsimp only [zset, zclr, znone]
  have L5 : ∀ (nn : Nat) (x3 x4 : Int), (0 ≤ x4 ∧ x4 ≤ 4) → (4 - x4).toNat < nn → Z p l e (zrm 1) s m args below meth c Γ 5 0 0 (MQ below (zQc Γ (zpi (fun x G' => G' = G ∧ True))) args s 0 0 (zA Γ)) 5 [some (zr 10 w), some (zi b0), some (zi p0), some (zi x3), some (zi x4)] [] G := by
    intro nn
    induction nn with
    | zero => intro x3 x4 h5_0 hm; exact absurd hm (Nat.not_lt_zero _)
    | succ nn ih5 =>
      intro x3 x4 h5_0 hm5
      refine zs_iload (pc := 5) C dX9_prideOf_5 rfl ?_
      refine zs_aload_n (pc := 7) C dX9_prideOf_7 rfl ?_
      refine zs_geti (r := 1012) (pc := 8) C dX9_prideOf_8 w_X9_258 f_10_12 rfl (r_1012 0) (fun v8 e8 l8 u8 => ?_)
      refine zs_icmp_ge (tgt := 31) (pc := 11) C dX9_prideOf_11 (by decide) (fun h11 => ?_) (fun h11 => ?_)
      · skip
        refine zs_iload_n (pc := 31) C dX9_prideOf_31 rfl ?_
        exact zs_iret (pc := 32) C hr hlk dX9_prideOf_32 ⟨rfl, trivial⟩
      · skip
        refine zs_iload_n (pc := 14) C dX9_prideOf_14 rfl ?_
        refine zs_aload_n (pc := 15) C dX9_prideOf_15 rfl ?_
        refine zs_iload_n (pc := 16) C dX9_prideOf_16 rfl ?_
        refine zs_iload_n (pc := 17) C dX9_prideOf_17 rfl ?_
        refine zs_iload (pc := 18) C dX9_prideOf_18 rfl ?_
        refine zVip3 (pc := 20) C dX9_prideOf_20 v_X9_394 (c_X9_leftOf hX (by omega) (by omega) (by omega)) (by decide) (by decide) ⟨Nat.zero_le _, Nat.zero_le _⟩ (Nat.le_of_ble_eq_true rfl) (fun x20 l20 u20 hp20 => ?_)
        have hq20 := hp20
        first | refine zs_iadd (pc := 23) C dX9_prideOf_23 (by omega) ?_ | refine zs_iaddF (pc := 23) C dX9_prideOf_23 (fun z23 hz231 hz232 => ?_)
        refine zs_istore_n (pc := 24) C dX9_prideOf_24 (by decide) ?_
        dsimp only [zset, zclr, znone]
        first | refine zs_iinc (pc := 25) C dX9_prideOf_25 rfl (by decide) (by omega) ?_ | refine zs_iincF (pc := 25) C dX9_prideOf_25 rfl (by decide) (fun z25 hz251 hz252 => ?_)
        dsimp only [zset, zclr, znone]
        refine zs_goto (tgt := 5) (pc := 28) C dX9_prideOf_28 (by decide) ?_
        exact zs_wk (ih5 _ _ (by first | omega | (simp only [zuI_1, zuI_2, zuJ_1, zuJ_2, zuJ_3, zuP_1, zuP_2, zuP_3, zuC_1, zuC_2, reduceIte, Nat.reduceEqDiff, false_and, and_false, true_and, and_true, and_self, or_true, true_or, or_false, false_or]; omega)) (by first | omega | (simp only [zuI_1, zuI_2, zuJ_1, zuJ_2, zuJ_3, zuP_1, zuP_2, zuP_3, zuC_1, zuC_2, reduceIte, Nat.reduceEqDiff, false_and, and_false, true_and, and_true, and_self, or_true, true_or, or_false, false_or]; omega))) (zwk_s rfl (zwk_s rfl (zwk_s rfl (zwk_s rfl (zwk_s rfl zwk_0)))))
  exact zs_wk (L5 _ _ _ (by first | omega | (simp only [zuI_1, zuI_2, zuJ_1, zuJ_2, zuJ_3, zuP_1, zuP_2, zuP_3, zuC_1, zuC_2, reduceIte, Nat.reduceEqDiff, false_and, and_false, true_and, and_true, and_self, or_true, true_or, or_false, false_or]; omega)) (Nat.lt_succ_self _)) (zwk_s rfl (zwk_s rfl (zwk_s rfl (zwk_s rfl (zwk_s rfl zwk_0)))))

set_option maxHeartbeats 4000000 in
set_option maxRecDepth 100000 in
theorem c_X9_worthLeft {l : Launch} {Γ : zΓ} {G : zH} {w : Nat} {p0 : Int} (hX : zXs Γ) (hp : 0 ≤ p0 ∧ p0 ≤ 4) : zMet l Γ yX9_worthLeft cX9_worthLeft 4 (some .int) 1 [zr 10 w, zi p0] G (zpi (fun x G' => G' = G ∧ True)) := by
  refine zMet_of RX9 hX (by decide) rfl (Nat.le_of_ble_eq_true rfl) ?_
  intro p e s m args below meth c C hr hlk
  show Z p l e (zrm 1) s m args below meth c Γ 4 0 0 (MQ below (zQc Γ (zpi (fun x G' => G' = G ∧ True))) args s 0 0 (zA Γ)) 0 [some (zr 10 w), some (zi p0), none, none] [] G
  refine zs_loc 1 rfl (fun ha1 hb1 => ?_)
  refine zs_iconst (pc := 0) C dX9_worthLeft_0 (by decide) ?_
  refine zs_istore_n (pc := 1) C dX9_worthLeft_1 (by decide) ?_
  dsimp only [zset, zclr, znone]
  refine zs_iconst (pc := 2) C dX9_worthLeft_2 (by decide) ?_
  refine zs_istore_n (pc := 3) C dX9_worthLeft_3 (by decide) ?_
  dsimp only [zset, zclr, znone]
  have L4 : ∀ (nn : Nat) (x2 x3 : Int), (0 ≤ x3 ∧ x3 ≤ 4) → (4 - x3).toNat < nn → Z p l e (zrm 1) s m args below meth c Γ 4 0 0 (MQ below (zQc Γ (zpi (fun x G' => G' = G ∧ True))) args s 0 0 (zA Γ)) 4 [some (zr 10 w), some (zi p0), some (zi x2), some (zi x3)] [] G := by
    intro nn
    induction nn with
    | zero => intro x2 x3 h4_0 hm; exact absurd hm (Nat.not_lt_zero _)
    | succ nn ih4 =>
      intro x2 x3 h4_0 hm4
      refine zs_iload_n (pc := 4) C dX9_worthLeft_4 rfl ?_
      refine zs_aload_n (pc := 5) C dX9_worthLeft_5 rfl ?_
      refine zs_geti (r := 1012) (pc := 6) C dX9_worthLeft_6 w_X9_258 f_10_12 rfl (r_1012 0) (fun v6 e6 l6 u6 => ?_)
      refine zs_icmp_ge (tgt := 35) (pc := 9) C dX9_worthLeft_9 (by decide) (fun h9 => ?_) (fun h9 => ?_)
      · skip
        refine zs_iload_n (pc := 35) C dX9_worthLeft_35 rfl ?_
        exact zs_iret (pc := 36) C hr hlk dX9_worthLeft_36 ⟨rfl, trivial⟩
      · skip
        refine zs_iload_n (pc := 12) C dX9_worthLeft_12 rfl ?_
        refine zs_aload_n (pc := 13) C dX9_worthLeft_13 rfl ?_
        refine zs_getf (pc := 14) C dX9_worthLeft_14 w_X9_30 f_10_25 (by decide) ?_
        refine zs_iload_n (pc := 17) C dX9_worthLeft_17 rfl ?_
        refine zs_iald (r := 2062) (pc := 18) C dX9_worthLeft_18 a_62 (by decide) (by omega) rfl (r_2062 _) (fun v18 e18 l18 u18 => ?_)
        refine zs_aload_n (pc := 19) C dX9_worthLeft_19 rfl ?_
        refine zs_iconst (pc := 20) C dX9_worthLeft_20 (by decide) ?_
        refine zs_iload_n (pc := 21) C dX9_worthLeft_21 rfl ?_
        refine zs_iload_n (pc := 22) C dX9_worthLeft_22 rfl ?_
        refine zVip3 (pc := 23) C dX9_worthLeft_23 v_X9_394 (c_X9_leftOf hX (by omega) (by omega) (by omega)) (by decide) (by decide) ⟨Nat.zero_le _, Nat.zero_le _⟩ (Nat.le_of_ble_eq_true rfl) (fun x23 l23 u23 hp23 => ?_)
        have hq23 := hp23
        first | refine zs_imul (pc := 26) C dX9_worthLeft_26 (by omega) ?_ | refine zs_imulF (pc := 26) C dX9_worthLeft_26 (fun z26 hz261 hz262 => ?_)
        first | refine zs_iadd (pc := 27) C dX9_worthLeft_27 (by omega) ?_ | refine zs_iaddF (pc := 27) C dX9_worthLeft_27 (fun z27 hz271 hz272 => ?_)
        refine zs_istore_n (pc := 28) C dX9_worthLeft_28 (by decide) ?_
        dsimp only [zset, zclr, znone]
        first | refine zs_iinc (pc := 29) C dX9_worthLeft_29 rfl (by decide) (by omega) ?_ | refine zs_iincF (pc := 29) C dX9_worthLeft_29 rfl (by decide) (fun z29 hz291 hz292 => ?_)
        dsimp only [zset, zclr, znone]
        refine zs_goto (tgt := 4) (pc := 32) C dX9_worthLeft_32 (by decide) ?_
        exact zs_wk (ih4 _ _ (by first | omega | (simp only [zuI_1, zuI_2, zuJ_1, zuJ_2, zuJ_3, zuP_1, zuP_2, zuP_3, zuC_1, zuC_2, reduceIte, Nat.reduceEqDiff, false_and, and_false, true_and, and_true, and_self, or_true, true_or, or_false, false_or]; omega)) (by first | omega | (simp only [zuI_1, zuI_2, zuJ_1, zuJ_2, zuJ_3, zuP_1, zuP_2, zuP_3, zuC_1, zuC_2, reduceIte, Nat.reduceEqDiff, false_and, and_false, true_and, and_true, and_self, or_true, true_or, or_false, false_or]; omega))) (zwk_s rfl (zwk_s rfl (zwk_s rfl (zwk_s rfl zwk_0))))
  exact zs_wk (L4 _ _ _ (by first | omega | (simp only [zuI_1, zuI_2, zuJ_1, zuJ_2, zuJ_3, zuP_1, zuP_2, zuP_3, zuC_1, zuC_2, reduceIte, Nat.reduceEqDiff, false_and, and_false, true_and, and_true, and_self, or_true, true_or, or_false, false_or]; omega)) (Nat.lt_succ_self _)) (zwk_s rfl (zwk_s rfl (zwk_s rfl (zwk_s rfl zwk_0))))

set_option maxHeartbeats 4000000 in
set_option maxRecDepth 100000 in
theorem c_X9_layNames {l : Launch} {Γ : zΓ} {G : zH} {w : Nat} {q1 q2 q3 q4 q5 q6 q7 : Int} (hX : zXs Γ)  : zMet l Γ yX9_layNames cX9_layNames 8 none 0 [zr 10 w, zi q1, zi q2, zi q3, zi q4, zi q5, zi q6, zi q7] G (zpv (fun G' => zsm [] G G' ∧ True)) := by
  refine zMet_of RX9 hX (by decide) rfl (Nat.le_of_ble_eq_true rfl) ?_
  intro p e s m args below meth c C hr hlk
  show Z p l e (zrm 0) s m args below meth c Γ 8 0 0 (MQ below (zQc Γ (zpv (fun G' => zsm [] G G' ∧ True))) args s 0 0 (zA Γ)) 0 [some (zr 10 w), some (zi q1), some (zi q2), some (zi q3), some (zi q4), some (zi q5), some (zi q6), some (zi q7)] [] G
  refine zs_loc 1 rfl (fun ha1 hb1 => ?_)
  refine zs_loc 2 rfl (fun ha2 hb2 => ?_)
  refine zs_loc 3 rfl (fun ha3 hb3 => ?_)
  refine zs_loc 4 rfl (fun ha4 hb4 => ?_)
  refine zs_loc 5 rfl (fun ha5 hb5 => ?_)
  refine zs_loc 6 rfl (fun ha6 hb6 => ?_)
  refine zs_loc 7 rfl (fun ha7 hb7 => ?_)
  refine zs_aload_n (pc := 0) C dX9_layNames_0 rfl ?_
  refine zs_getf (pc := 1) C dX9_layNames_1 w_X9_81 f_10_48 (by decide) ?_
  refine zs_iconst (pc := 4) C dX9_layNames_4 (by decide) ?_
  refine zs_iload_n (pc := 5) C dX9_layNames_5 rfl ?_
  refine zs_i2l (pc := 6) C dX9_layNames_6 ?_
  refine zs_last (r := 2079) (pc := 7) C dX9_layNames_7 a_79 (by decide) (by omega) rfl ?_
  refine zs_aload_n (pc := 8) C dX9_layNames_8 rfl ?_
  refine zs_getf (pc := 9) C dX9_layNames_9 w_X9_81 f_10_48 (by decide) ?_
  refine zs_iconst (pc := 12) C dX9_layNames_12 (by decide) ?_
  refine zs_iload_n (pc := 13) C dX9_layNames_13 rfl ?_
  refine zs_i2l (pc := 14) C dX9_layNames_14 ?_
  refine zs_last (r := 2079) (pc := 15) C dX9_layNames_15 a_79 (by decide) (by omega) rfl ?_
  refine zs_aload_n (pc := 16) C dX9_layNames_16 rfl ?_
  refine zs_getf (pc := 17) C dX9_layNames_17 w_X9_81 f_10_48 (by decide) ?_
  refine zs_iconst (pc := 20) C dX9_layNames_20 (by decide) ?_
  refine zs_iload_n (pc := 21) C dX9_layNames_21 rfl ?_
  refine zs_i2l (pc := 22) C dX9_layNames_22 ?_
  refine zs_last (r := 2079) (pc := 23) C dX9_layNames_23 a_79 (by decide) (by omega) rfl ?_
  refine zs_aload_n (pc := 24) C dX9_layNames_24 rfl ?_
  refine zs_getf (pc := 25) C dX9_layNames_25 w_X9_81 f_10_48 (by decide) ?_
  refine zs_iconst (pc := 28) C dX9_layNames_28 (by decide) ?_
  refine zs_iload (pc := 29) C dX9_layNames_29 rfl ?_
  refine zs_i2l (pc := 31) C dX9_layNames_31 ?_
  refine zs_last (r := 2079) (pc := 32) C dX9_layNames_32 a_79 (by decide) (by omega) rfl ?_
  refine zs_aload_n (pc := 33) C dX9_layNames_33 rfl ?_
  refine zs_getf (pc := 34) C dX9_layNames_34 w_X9_81 f_10_48 (by decide) ?_
  refine zs_iconst (pc := 37) C dX9_layNames_37 (by decide) ?_
  refine zs_iload (pc := 38) C dX9_layNames_38 rfl ?_
  refine zs_i2l (pc := 40) C dX9_layNames_40 ?_
  refine zs_last (r := 2079) (pc := 41) C dX9_layNames_41 a_79 (by decide) (by omega) rfl ?_
  refine zs_aload_n (pc := 42) C dX9_layNames_42 rfl ?_
  refine zs_getf (pc := 43) C dX9_layNames_43 w_X9_81 f_10_48 (by decide) ?_
  refine zs_iconst (pc := 46) C dX9_layNames_46 (by decide) ?_
  refine zs_iload (pc := 47) C dX9_layNames_47 rfl ?_
  refine zs_i2l (pc := 49) C dX9_layNames_49 ?_
  refine zs_last (r := 2079) (pc := 50) C dX9_layNames_50 a_79 (by decide) (by omega) rfl ?_
  refine zs_aload_n (pc := 51) C dX9_layNames_51 rfl ?_
  refine zs_getf (pc := 52) C dX9_layNames_52 w_X9_81 f_10_48 (by decide) ?_
  refine zs_bipush (pc := 55) C dX9_layNames_55 (by decide) (by decide) ?_
  refine zs_iload (pc := 57) C dX9_layNames_57 rfl ?_
  refine zs_i2l (pc := 59) C dX9_layNames_59 ?_
  refine zs_last (r := 2079) (pc := 60) C dX9_layNames_60 a_79 (by decide) (by omega) rfl ?_
  exact zs_vret (pc := 61) C hr hlk dX9_layNames_61 ⟨by repeat (first | exact zsm_rf | assumption | refine zsm_C (by decide) ?_ | refine zsm_I (by decide) ?_ | refine zsm_J ?_ | refine zsm_c (by assumption) (by decide) ?_), trivial⟩

set_option maxHeartbeats 4000000 in
set_option maxRecDepth 100000 in
theorem c_X9_layOf {l : Launch} {Γ : zΓ} {G : zH} {w : Nat} {b0 p0 s0 : Int} (hX : zXs Γ) (hb : b0 = 0 ∨ b0 = 1)(hp : 0 ≤ p0 ∧ p0 ≤ 4)(hs : 0 ≤ s0 ∧ s0 ≤ 3) : zMet l Γ yX9_layOf cX9_layOf 4 none 2 [zr 10 w, zi b0, zi p0, zi s0] G (zpv (fun G' => zsm [] G G' ∧ True)) := by
  refine zMet_of RX9 hX (by decide) rfl (Nat.le_of_ble_eq_true rfl) ?_
  intro p e s m args below meth c C hr hlk
  show Z p l e (zrm 2) s m args below meth c Γ 4 0 0 (MQ below (zQc Γ (zpv (fun G' => zsm [] G G' ∧ True))) args s 0 0 (zA Γ)) 0 [some (zr 10 w), some (zi b0), some (zi p0), some (zi s0)] [] G
  refine zs_loc 1 rfl (fun ha1 hb1 => ?_)
  refine zs_loc 2 rfl (fun ha2 hb2 => ?_)
  refine zs_loc 3 rfl (fun ha3 hb3 => ?_)
  refine zs_aload_n (pc := 0) C dX9_layOf_0 rfl ?_
  refine zs_aload_n (pc := 1) C dX9_layOf_1 rfl ?_
  refine zs_getf (pc := 2) C dX9_layOf_2 w_X9_30 f_10_25 (by decide) ?_
  refine zs_iload_n (pc := 5) C dX9_layOf_5 rfl ?_
  refine zs_iald (r := 2062) (pc := 6) C dX9_layOf_6 a_62 (by decide) (by omega) rfl (r_2062 _) (fun v6 e6 l6 u6 => ?_)
  refine zs_aload_n (pc := 7) C dX9_layOf_7 rfl ?_
  refine zs_getf (pc := 8) C dX9_layOf_8 w_X9_94 f_10_53 (by decide) ?_
  refine zs_iconst (pc := 11) C dX9_layOf_11 (by decide) ?_
  refine zs_iload_n (pc := 12) C dX9_layOf_12 rfl ?_
  first | refine zs_imul (pc := 13) C dX9_layOf_13 (by omega) ?_ | refine zs_imulF (pc := 13) C dX9_layOf_13 (fun z13 hz131 hz132 => ?_)
  refine zs_iload_n (pc := 14) C dX9_layOf_14 rfl ?_
  first | refine zs_iadd (pc := 15) C dX9_layOf_15 (by omega) ?_ | refine zs_iaddF (pc := 15) C dX9_layOf_15 (fun z15 hz151 hz152 => ?_)
  refine zs_iald (r := 2083) (pc := 16) C dX9_layOf_16 a_83 (by decide) (by omega) rfl (r_2083 _) (fun v16 e16 l16 u16 => ?_)
  refine zs_aload_n (pc := 17) C dX9_layOf_17 rfl ?_
  refine zs_getf (pc := 18) C dX9_layOf_18 w_X9_112 f_10_59 (by decide) ?_
  refine zs_iload_n (pc := 21) C dX9_layOf_21 rfl ?_
  refine zs_iald (r := 2089) (pc := 22) C dX9_layOf_22 a_89 (by decide) (by omega) rfl (r_2089 _) (fun v22 e22 l22 u22 => ?_)
  refine zs_aload_n (pc := 23) C dX9_layOf_23 rfl ?_
  refine zs_iload_n (pc := 24) C dX9_layOf_24 rfl ?_
  refine zs_iload_n (pc := 25) C dX9_layOf_25 rfl ?_
  refine zVip2 (pc := 26) C dX9_layOf_26 v_X9_404 (c_X9_prideOf hX (by omega) (by omega)) (by decide) (by decide) ⟨Nat.zero_le _, Nat.zero_le _⟩ (Nat.le_of_ble_eq_true rfl) (fun x26 l26 u26 hp26 => ?_)
  have hq26 := hp26
  refine zs_aload_n (pc := 29) C dX9_layOf_29 rfl ?_
  refine zs_iload_n (pc := 30) C dX9_layOf_30 rfl ?_
  refine zs_iload_n (pc := 31) C dX9_layOf_31 rfl ?_
  refine zs_iload_n (pc := 32) C dX9_layOf_32 rfl ?_
  refine zVip3 (pc := 33) C dX9_layOf_33 v_X9_394 (c_X9_leftOf hX (by omega) (by omega) (by omega)) (by decide) (by decide) ⟨Nat.zero_le _, Nat.zero_le _⟩ (Nat.le_of_ble_eq_true rfl) (fun x33 l33 u33 hp33 => ?_)
  have hq33 := hp33
  refine zs_if_le (tgt := 43) (pc := 36) C dX9_layOf_36 (by decide) (fun h36 => ?_) (fun h36 => ?_)
  · skip
    refine zs_iconst (pc := 43) C dX9_layOf_43 (by decide) ?_
    refine zs_aload_n (pc := 44) C dX9_layOf_44 rfl ?_
    refine zs_getf (pc := 45) C dX9_layOf_45 w_X9_36 f_10_27 (by decide) ?_
    refine zs_iload_n (pc := 48) C dX9_layOf_48 rfl ?_
    refine zs_iald (r := 2064) (pc := 49) C dX9_layOf_49 a_64 (by decide) (by omega) rfl (r_2064 _) (fun v49 e49 l49 u49 => ?_)
    refine zs_aload_n (pc := 50) C dX9_layOf_50 rfl ?_
    refine zs_getf (pc := 51) C dX9_layOf_51 w_X9_115 f_10_60 (by decide) ?_
    refine zs_iload_n (pc := 54) C dX9_layOf_54 rfl ?_
    refine zs_iald (r := 2090) (pc := 55) C dX9_layOf_55 a_90 (by decide) (by omega) rfl (r_2090 _) (fun v55 e55 l55 u55 => ?_)
    refine zVv7 (pc := 56) C dX9_layOf_56 v_X9_410 (c_X9_layNames hX ) (by decide) (by decide) ⟨Nat.zero_le _, Nat.zero_le _⟩ (Nat.le_of_ble_eq_true rfl) (fun G56 hp56 => ?_)
    obtain ⟨hz56, hq56⟩ := hp56
    exact zs_vret (pc := 59) C hr hlk dX9_layOf_59 ⟨by repeat (first | exact zsm_rf | assumption | refine zsm_C (by decide) ?_ | refine zsm_I (by decide) ?_ | refine zsm_J ?_ | refine zsm_c (by assumption) (by decide) ?_), trivial⟩
  · skip
    refine zs_iconst (pc := 39) C dX9_layOf_39 (by decide) ?_
    refine zs_goto (tgt := 44) (pc := 40) C dX9_layOf_40 (by decide) ?_
    refine zs_aload_n (pc := 44) C dX9_layOf_44 rfl ?_
    refine zs_getf (pc := 45) C dX9_layOf_45 w_X9_36 f_10_27 (by decide) ?_
    refine zs_iload_n (pc := 48) C dX9_layOf_48 rfl ?_
    refine zs_iald (r := 2064) (pc := 49) C dX9_layOf_49 a_64 (by decide) (by omega) rfl (r_2064 _) (fun v49 e49 l49 u49 => ?_)
    refine zs_aload_n (pc := 50) C dX9_layOf_50 rfl ?_
    refine zs_getf (pc := 51) C dX9_layOf_51 w_X9_115 f_10_60 (by decide) ?_
    refine zs_iload_n (pc := 54) C dX9_layOf_54 rfl ?_
    refine zs_iald (r := 2090) (pc := 55) C dX9_layOf_55 a_90 (by decide) (by omega) rfl (r_2090 _) (fun v55 e55 l55 u55 => ?_)
    refine zVv7 (pc := 56) C dX9_layOf_56 v_X9_410 (c_X9_layNames hX ) (by decide) (by decide) ⟨Nat.zero_le _, Nat.zero_le _⟩ (Nat.le_of_ble_eq_true rfl) (fun G56 hp56 => ?_)
    obtain ⟨hz56, hq56⟩ := hp56
    exact zs_vret (pc := 59) C hr hlk dX9_layOf_59 ⟨by repeat (first | exact zsm_rf | assumption | refine zsm_C (by decide) ?_ | refine zsm_I (by decide) ?_ | refine zsm_J ?_ | refine zsm_c (by assumption) (by decide) ?_), trivial⟩

set_option maxHeartbeats 4000000 in
set_option maxRecDepth 100000 in
theorem c_X9_layPair {l : Launch} {Γ : zΓ} {G : zH} {w : Nat} {p0 s0 : Int} (hX : zXs Γ) (hp : 0 ≤ p0 ∧ p0 ≤ 4)(hs : 0 ≤ s0 ∧ s0 ≤ 4) : zMet l Γ yX9_layPair cX9_layPair 3 none 2 [zr 10 w, zi p0, zi s0] G (zpv (fun G' => zsm [] G G' ∧ True)) := by
  refine zMet_of RX9 hX (by decide) rfl (Nat.le_of_ble_eq_true rfl) ?_
  intro p e s m args below meth c C hr hlk
  show Z p l e (zrm 2) s m args below meth c Γ 3 0 0 (MQ below (zQc Γ (zpv (fun G' => zsm [] G G' ∧ True))) args s 0 0 (zA Γ)) 0 [some (zr 10 w), some (zi p0), some (zi s0)] [] G
  refine zs_loc 1 rfl (fun ha1 hb1 => ?_)
  refine zs_loc 2 rfl (fun ha2 hb2 => ?_)
  refine zs_aload_n (pc := 0) C dX9_layPair_0 rfl ?_
  refine zs_aload_n (pc := 1) C dX9_layPair_1 rfl ?_
  refine zs_iload_n (pc := 2) C dX9_layPair_2 rfl ?_
  refine zVip1 (pc := 3) C dX9_layPair_3 v_X9_430 (c_X9_worthLeft hX (by omega)) (by decide) (by decide) ⟨Nat.zero_le _, Nat.zero_le _⟩ (Nat.le_of_ble_eq_true rfl) (fun x3 l3 u3 hp3 => ?_)
  have hq3 := hp3
  refine zs_aload_n (pc := 6) C dX9_layPair_6 rfl ?_
  refine zs_iload_n (pc := 7) C dX9_layPair_7 rfl ?_
  refine zVip1 (pc := 8) C dX9_layPair_8 v_X9_430 (c_X9_worthLeft hX (by omega)) (by decide) (by decide) ⟨Nat.zero_le _, Nat.zero_le _⟩ (Nat.le_of_ble_eq_true rfl) (fun x8 l8 u8 hp8 => ?_)
  have hq8 := hp8
  refine zs_aload_n (pc := 11) C dX9_layPair_11 rfl ?_
  refine zs_getf (pc := 12) C dX9_layPair_12 w_X9_112 f_10_59 (by decide) ?_
  refine zs_iconst (pc := 15) C dX9_layPair_15 (by decide) ?_
  refine zs_iald (r := 2089) (pc := 16) C dX9_layPair_16 a_89 (by decide) (by omega) rfl (r_2089 _) (fun v16 e16 l16 u16 => ?_)
  refine zs_aload_n (pc := 17) C dX9_layPair_17 rfl ?_
  refine zs_iconst (pc := 18) C dX9_layPair_18 (by decide) ?_
  refine zs_iload_n (pc := 19) C dX9_layPair_19 rfl ?_
  refine zVip2 (pc := 20) C dX9_layPair_20 v_X9_404 (c_X9_prideOf hX (by omega) (by omega)) (by decide) (by decide) ⟨Nat.zero_le _, Nat.zero_le _⟩ (Nat.le_of_ble_eq_true rfl) (fun x20 l20 u20 hp20 => ?_)
  have hq20 := hp20
  refine zs_iconst (pc := 23) C dX9_layPair_23 (by decide) ?_
  refine zs_aload_n (pc := 24) C dX9_layPair_24 rfl ?_
  refine zs_getf (pc := 25) C dX9_layPair_25 w_X9_36 f_10_27 (by decide) ?_
  refine zs_iload_n (pc := 28) C dX9_layPair_28 rfl ?_
  refine zs_iald (r := 2064) (pc := 29) C dX9_layPair_29 a_64 (by decide) (by omega) rfl (r_2064 _) (fun v29 e29 l29 u29 => ?_)
  refine zs_aload_n (pc := 30) C dX9_layPair_30 rfl ?_
  refine zs_getf (pc := 31) C dX9_layPair_31 w_X9_115 f_10_60 (by decide) ?_
  refine zs_iconst (pc := 34) C dX9_layPair_34 (by decide) ?_
  refine zs_iald (r := 2090) (pc := 35) C dX9_layPair_35 a_90 (by decide) (by omega) rfl (r_2090 _) (fun v35 e35 l35 u35 => ?_)
  refine zVv7 (pc := 36) C dX9_layPair_36 v_X9_410 (c_X9_layNames hX ) (by decide) (by decide) ⟨Nat.zero_le _, Nat.zero_le _⟩ (Nat.le_of_ble_eq_true rfl) (fun G36 hp36 => ?_)
  obtain ⟨hz36, hq36⟩ := hp36
  exact zs_vret (pc := 39) C hr hlk dX9_layPair_39 ⟨by repeat (first | exact zsm_rf | assumption | refine zsm_C (by decide) ?_ | refine zsm_I (by decide) ?_ | refine zsm_J ?_ | refine zsm_c (by assumption) (by decide) ?_), trivial⟩

set_option maxHeartbeats 4000000 in
set_option maxRecDepth 100000 in
theorem c_X9_compares {l : Launch} {Γ : zΓ} {G : zH} {k a b : Int} (hX : zXs Γ)  : zMet l Γ yX9_compares cX9_compares 5 (some .boolean) 0 [zi k, zj a, zj b] G (zpi (fun x G' => G' = G ∧ (x = 0 ∨ x = 1))) := by
  refine zMet_of RX9 hX (by decide) rfl (Nat.le_of_ble_eq_true rfl) ?_
  intro p e s m args below meth c C hr hlk
  show Z p l e (zrm 0) s m args below meth c Γ 5 0 0 (MQ below (zQc Γ (zpi (fun x G' => G' = G ∧ (x = 0 ∨ x = 1)))) args s 0 0 (zA Γ)) 0 [some (zi k), some (zj a), none, some (zj b), none] [] G
  refine zs_loc 0 rfl (fun ha0 hb0 => ?_)
  refine zs_iload_n (pc := 0) C dX9_compares_0 rfl ?_
  refine zs_name (fun y1 ey1 => ?_)
  rcases (show y1 = 5 ∨ y1 = 6 ∨ y1 = 7 ∨ y1 = 8 ∨ y1 = 9 ∨ (y1 < 5 ∨ 9 < y1) by omega) with h1 | h1 | h1 | h1 | h1 | h1
  · skip
    refine zs_tabIn (pc := 1) (tgt := 36) C 5 dX9_compares_1 h1 (by decide) rfl (by decide) ?_
    refine zs_lload_n (pc := 36) C dX9_compares_36 rfl ?_
    refine zs_lload_n (pc := 37) C dX9_compares_37 rfl ?_
    refine zs_lcmp (pc := 38) C dX9_compares_38 (fun z38 hz38 => ?_)
    refine zs_if_ge (tgt := 46) (pc := 39) C dX9_compares_39 (by decide) (fun h39 => ?_) (fun h39 => ?_)
    · skip
      refine zs_iconst (pc := 46) C dX9_compares_46 (by decide) ?_
      exact zs_zret (pc := 47) C hr hlk dX9_compares_47 (by omega) ⟨rfl, by first | omega | (simp only [zuI_1, zuI_2, zuJ_1, zuJ_2, zuJ_3, zuP_1, zuP_2, zuP_3, zuC_1, zuC_2, reduceIte, Nat.reduceEqDiff, false_and, and_false, true_and, and_true, and_self, or_true, true_or, or_false, false_or]; omega)⟩
    · skip
      refine zs_iconst (pc := 42) C dX9_compares_42 (by decide) ?_
      refine zs_goto (tgt := 47) (pc := 43) C dX9_compares_43 (by decide) ?_
      exact zs_zret (pc := 47) C hr hlk dX9_compares_47 (by omega) ⟨rfl, by first | omega | (simp only [zuI_1, zuI_2, zuJ_1, zuJ_2, zuJ_3, zuP_1, zuP_2, zuP_3, zuC_1, zuC_2, reduceIte, Nat.reduceEqDiff, false_and, and_false, true_and, and_true, and_self, or_true, true_or, or_false, false_or]; omega)⟩
  · skip
    refine zs_tabIn (pc := 1) (tgt := 48) C 6 dX9_compares_1 h1 (by decide) rfl (by decide) ?_
    refine zs_lload_n (pc := 48) C dX9_compares_48 rfl ?_
    refine zs_lload_n (pc := 49) C dX9_compares_49 rfl ?_
    refine zs_lcmp (pc := 50) C dX9_compares_50 (fun z50 hz50 => ?_)
    refine zs_if_gt (tgt := 58) (pc := 51) C dX9_compares_51 (by decide) (fun h51 => ?_) (fun h51 => ?_)
    · skip
      refine zs_iconst (pc := 58) C dX9_compares_58 (by decide) ?_
      exact zs_zret (pc := 59) C hr hlk dX9_compares_59 (by omega) ⟨rfl, by first | omega | (simp only [zuI_1, zuI_2, zuJ_1, zuJ_2, zuJ_3, zuP_1, zuP_2, zuP_3, zuC_1, zuC_2, reduceIte, Nat.reduceEqDiff, false_and, and_false, true_and, and_true, and_self, or_true, true_or, or_false, false_or]; omega)⟩
    · skip
      refine zs_iconst (pc := 54) C dX9_compares_54 (by decide) ?_
      refine zs_goto (tgt := 59) (pc := 55) C dX9_compares_55 (by decide) ?_
      exact zs_zret (pc := 59) C hr hlk dX9_compares_59 (by omega) ⟨rfl, by first | omega | (simp only [zuI_1, zuI_2, zuJ_1, zuJ_2, zuJ_3, zuP_1, zuP_2, zuP_3, zuC_1, zuC_2, reduceIte, Nat.reduceEqDiff, false_and, and_false, true_and, and_true, and_self, or_true, true_or, or_false, false_or]; omega)⟩
  · skip
    refine zs_tabIn (pc := 1) (tgt := 60) C 7 dX9_compares_1 h1 (by decide) rfl (by decide) ?_
    refine zs_lload_n (pc := 60) C dX9_compares_60 rfl ?_
    refine zs_lload_n (pc := 61) C dX9_compares_61 rfl ?_
    refine zs_lcmp (pc := 62) C dX9_compares_62 (fun z62 hz62 => ?_)
    refine zs_if_ne (tgt := 70) (pc := 63) C dX9_compares_63 (by decide) (fun h63 => ?_) (fun h63 => ?_)
    · skip
      refine zs_iconst (pc := 70) C dX9_compares_70 (by decide) ?_
      exact zs_zret (pc := 71) C hr hlk dX9_compares_71 (by omega) ⟨rfl, by first | omega | (simp only [zuI_1, zuI_2, zuJ_1, zuJ_2, zuJ_3, zuP_1, zuP_2, zuP_3, zuC_1, zuC_2, reduceIte, Nat.reduceEqDiff, false_and, and_false, true_and, and_true, and_self, or_true, true_or, or_false, false_or]; omega)⟩
    · skip
      refine zs_iconst (pc := 66) C dX9_compares_66 (by decide) ?_
      refine zs_goto (tgt := 71) (pc := 67) C dX9_compares_67 (by decide) ?_
      exact zs_zret (pc := 71) C hr hlk dX9_compares_71 (by omega) ⟨rfl, by first | omega | (simp only [zuI_1, zuI_2, zuJ_1, zuJ_2, zuJ_3, zuP_1, zuP_2, zuP_3, zuC_1, zuC_2, reduceIte, Nat.reduceEqDiff, false_and, and_false, true_and, and_true, and_self, or_true, true_or, or_false, false_or]; omega)⟩
  · skip
    refine zs_tabIn (pc := 1) (tgt := 72) C 8 dX9_compares_1 h1 (by decide) rfl (by decide) ?_
    refine zs_lload_n (pc := 72) C dX9_compares_72 rfl ?_
    refine zs_lload_n (pc := 73) C dX9_compares_73 rfl ?_
    refine zs_lcmp (pc := 74) C dX9_compares_74 (fun z74 hz74 => ?_)
    refine zs_if_eq (tgt := 82) (pc := 75) C dX9_compares_75 (by decide) (fun h75 => ?_) (fun h75 => ?_)
    · skip
      refine zs_iconst (pc := 82) C dX9_compares_82 (by decide) ?_
      exact zs_zret (pc := 83) C hr hlk dX9_compares_83 (by omega) ⟨rfl, by first | omega | (simp only [zuI_1, zuI_2, zuJ_1, zuJ_2, zuJ_3, zuP_1, zuP_2, zuP_3, zuC_1, zuC_2, reduceIte, Nat.reduceEqDiff, false_and, and_false, true_and, and_true, and_self, or_true, true_or, or_false, false_or]; omega)⟩
    · skip
      refine zs_iconst (pc := 78) C dX9_compares_78 (by decide) ?_
      refine zs_goto (tgt := 83) (pc := 79) C dX9_compares_79 (by decide) ?_
      exact zs_zret (pc := 83) C hr hlk dX9_compares_83 (by omega) ⟨rfl, by first | omega | (simp only [zuI_1, zuI_2, zuJ_1, zuJ_2, zuJ_3, zuP_1, zuP_2, zuP_3, zuC_1, zuC_2, reduceIte, Nat.reduceEqDiff, false_and, and_false, true_and, and_true, and_self, or_true, true_or, or_false, false_or]; omega)⟩
  · skip
    refine zs_tabIn (pc := 1) (tgt := 84) C 9 dX9_compares_1 h1 (by decide) rfl (by decide) ?_
    refine zs_lload_n (pc := 84) C dX9_compares_84 rfl ?_
    refine zs_lload_n (pc := 85) C dX9_compares_85 rfl ?_
    refine zs_lcmp (pc := 86) C dX9_compares_86 (fun z86 hz86 => ?_)
    refine zs_if_lt (tgt := 94) (pc := 87) C dX9_compares_87 (by decide) (fun h87 => ?_) (fun h87 => ?_)
    · skip
      refine zs_iconst (pc := 94) C dX9_compares_94 (by decide) ?_
      exact zs_zret (pc := 95) C hr hlk dX9_compares_95 (by omega) ⟨rfl, by first | omega | (simp only [zuI_1, zuI_2, zuJ_1, zuJ_2, zuJ_3, zuP_1, zuP_2, zuP_3, zuC_1, zuC_2, reduceIte, Nat.reduceEqDiff, false_and, and_false, true_and, and_true, and_self, or_true, true_or, or_false, false_or]; omega)⟩
    · skip
      refine zs_iconst (pc := 90) C dX9_compares_90 (by decide) ?_
      refine zs_goto (tgt := 95) (pc := 91) C dX9_compares_91 (by decide) ?_
      exact zs_zret (pc := 95) C hr hlk dX9_compares_95 (by omega) ⟨rfl, by first | omega | (simp only [zuI_1, zuI_2, zuJ_1, zuJ_2, zuJ_3, zuP_1, zuP_2, zuP_3, zuC_1, zuC_2, reduceIte, Nat.reduceEqDiff, false_and, and_false, true_and, and_true, and_self, or_true, true_or, or_false, false_or]; omega)⟩
  · skip
    refine zs_tabOut (tgt := 96) (pc := 1) C dX9_compares_1 h1 (by decide) ?_
    refine zs_lload_n (pc := 96) C dX9_compares_96 rfl ?_
    refine zs_lload_n (pc := 97) C dX9_compares_97 rfl ?_
    refine zs_lcmp (pc := 98) C dX9_compares_98 (fun z98 hz98 => ?_)
    refine zs_if_le (tgt := 106) (pc := 99) C dX9_compares_99 (by decide) (fun h99 => ?_) (fun h99 => ?_)
    · skip
      refine zs_iconst (pc := 106) C dX9_compares_106 (by decide) ?_
      exact zs_zret (pc := 107) C hr hlk dX9_compares_107 (by omega) ⟨rfl, by first | omega | (simp only [zuI_1, zuI_2, zuJ_1, zuJ_2, zuJ_3, zuP_1, zuP_2, zuP_3, zuC_1, zuC_2, reduceIte, Nat.reduceEqDiff, false_and, and_false, true_and, and_true, and_self, or_true, true_or, or_false, false_or]; omega)⟩
    · skip
      refine zs_iconst (pc := 102) C dX9_compares_102 (by decide) ?_
      refine zs_goto (tgt := 107) (pc := 103) C dX9_compares_103 (by decide) ?_
      exact zs_zret (pc := 107) C hr hlk dX9_compares_107 (by omega) ⟨rfl, by first | omega | (simp only [zuI_1, zuI_2, zuJ_1, zuJ_2, zuJ_3, zuP_1, zuP_2, zuP_3, zuC_1, zuC_2, reduceIte, Nat.reduceEqDiff, false_and, and_false, true_and, and_true, and_self, or_true, true_or, or_false, false_or]; omega)⟩

set_option maxHeartbeats 4000000 in
set_option maxRecDepth 100000 in
theorem c_X9_bounded {l : Launch} {Γ : zΓ} {G : zH} {w : Nat} {a : Int} (hX : zXs Γ)  : zMet l Γ yX9_bounded cX9_bounded 3 (some .long) 0 [zr 10 w, zj a] G (zpj (fun x G' => zsm [1050] G G' ∧ True)) := by
  refine zMet_of RX9 hX (by decide) rfl (Nat.le_of_ble_eq_true rfl) ?_
  intro p e s m args below meth c C hr hlk
  show Z p l e (zrm 0) s m args below meth c Γ 3 0 0 (MQ below (zQc Γ (zpj (fun x G' => zsm [1050] G G' ∧ True))) args s 0 0 (zA Γ)) 0 [some (zr 10 w), some (zj a), none] [] G
  refine zs_aload_n (pc := 0) C dX9_bounded_0 rfl ?_
  refine zs_aload_n (pc := 1) C dX9_bounded_1 rfl ?_
  refine zs_getz (r := 1050) (pc := 2) C dX9_bounded_2 w_X9_357 f_10_50 rfl (r_1050 0) (fun v2 e2 l2 u2 => ?_)
  refine zs_if_ne (tgt := 24) (pc := 5) C dX9_bounded_5 (by decide) (fun h5 => ?_) (fun h5 => ?_)
  · skip
    refine zs_iconst (pc := 24) C dX9_bounded_24 (by decide) ?_
    refine zs_goto (tgt := 29) (pc := 25) C dX9_bounded_25 (by decide) ?_
    refine zs_putz (r := 1050) (pc := 29) C dX9_bounded_29 w_X9_357 f_10_50 rfl (r_1050 0) (by omega) (by omega) ?_
    refine zs_aload_n (pc := 32) C dX9_bounded_32 rfl ?_
    refine zs_getz (r := 1050) (pc := 33) C dX9_bounded_33 w_X9_357 f_10_50 rfl (r_1050 0) (fun v33 e33 l33 u33 => ?_)
    try simp only [zuI_1, zuI_2, zuJ_1, zuJ_2, zuJ_3, zuP_1, zuP_2, zuP_3, zuC_1, zuC_2, reduceIte, Nat.reduceEqDiff, false_and, and_false, true_and, and_true, and_self, or_true, true_or, or_false, false_or] at e33
    refine zs_if_eq (tgt := 43) (pc := 36) C dX9_bounded_36 (by decide) (fun h36 => ?_) (fun h36 => ?_)
    · skip
      refine zs_lload_n (pc := 43) C dX9_bounded_43 rfl ?_
      exact zs_lret (pc := 44) C hr hlk dX9_bounded_44 ⟨by repeat (first | exact zsm_rf | assumption | refine zsm_C (by decide) ?_ | refine zsm_I (by decide) ?_ | refine zsm_J ?_ | refine zsm_c (by assumption) (by decide) ?_), trivial⟩
    · skip
      refine zs_lconst (n := 0) (pc := 39) C dX9_bounded_39 rfl (by decide) ?_
      refine zs_goto (tgt := 44) (pc := 40) C dX9_bounded_40 (by decide) ?_
      exact zs_lret (pc := 44) C hr hlk dX9_bounded_44 ⟨by repeat (first | exact zsm_rf | assumption | refine zsm_C (by decide) ?_ | refine zsm_I (by decide) ?_ | refine zsm_J ?_ | refine zsm_c (by assumption) (by decide) ?_), trivial⟩
  · skip
    refine zs_lload_n (pc := 8) C dX9_bounded_8 rfl ?_
    refine zs_ldc2 (n := 1000000000000) (pc := 9) C dX9_bounded_9 q_X9_360 (by decide) (by decide) ?_
    refine zs_lcmp (pc := 12) C dX9_bounded_12 (fun z12 hz12 => ?_)
    refine zs_if_gt (tgt := 24) (pc := 13) C dX9_bounded_13 (by decide) (fun h13 => ?_) (fun h13 => ?_)
    · skip
      refine zs_iconst (pc := 24) C dX9_bounded_24 (by decide) ?_
      refine zs_goto (tgt := 29) (pc := 25) C dX9_bounded_25 (by decide) ?_
      refine zs_putz (r := 1050) (pc := 29) C dX9_bounded_29 w_X9_357 f_10_50 rfl (r_1050 0) (by omega) (by omega) ?_
      refine zs_aload_n (pc := 32) C dX9_bounded_32 rfl ?_
      refine zs_getz (r := 1050) (pc := 33) C dX9_bounded_33 w_X9_357 f_10_50 rfl (r_1050 0) (fun v33 e33 l33 u33 => ?_)
      try simp only [zuI_1, zuI_2, zuJ_1, zuJ_2, zuJ_3, zuP_1, zuP_2, zuP_3, zuC_1, zuC_2, reduceIte, Nat.reduceEqDiff, false_and, and_false, true_and, and_true, and_self, or_true, true_or, or_false, false_or] at e33
      refine zs_if_eq (tgt := 43) (pc := 36) C dX9_bounded_36 (by decide) (fun h36 => ?_) (fun h36 => ?_)
      · skip
        refine zs_lload_n (pc := 43) C dX9_bounded_43 rfl ?_
        exact zs_lret (pc := 44) C hr hlk dX9_bounded_44 ⟨by repeat (first | exact zsm_rf | assumption | refine zsm_C (by decide) ?_ | refine zsm_I (by decide) ?_ | refine zsm_J ?_ | refine zsm_c (by assumption) (by decide) ?_), trivial⟩
      · skip
        refine zs_lconst (n := 0) (pc := 39) C dX9_bounded_39 rfl (by decide) ?_
        refine zs_goto (tgt := 44) (pc := 40) C dX9_bounded_40 (by decide) ?_
        exact zs_lret (pc := 44) C hr hlk dX9_bounded_44 ⟨by repeat (first | exact zsm_rf | assumption | refine zsm_C (by decide) ?_ | refine zsm_I (by decide) ?_ | refine zsm_J ?_ | refine zsm_c (by assumption) (by decide) ?_), trivial⟩
    · skip
      refine zs_lload_n (pc := 16) C dX9_bounded_16 rfl ?_
      refine zs_ldc2 (n := -1000000000000) (pc := 17) C dX9_bounded_17 q_X9_362 (by decide) (by decide) ?_
      refine zs_lcmp (pc := 20) C dX9_bounded_20 (fun z20 hz20 => ?_)
      refine zs_if_ge (tgt := 28) (pc := 21) C dX9_bounded_21 (by decide) (fun h21 => ?_) (fun h21 => ?_)
      · skip
        refine zs_iconst (pc := 28) C dX9_bounded_28 (by decide) ?_
        refine zs_putz (r := 1050) (pc := 29) C dX9_bounded_29 w_X9_357 f_10_50 rfl (r_1050 0) (by omega) (by omega) ?_
        refine zs_aload_n (pc := 32) C dX9_bounded_32 rfl ?_
        refine zs_getz (r := 1050) (pc := 33) C dX9_bounded_33 w_X9_357 f_10_50 rfl (r_1050 0) (fun v33 e33 l33 u33 => ?_)
        try simp only [zuI_1, zuI_2, zuJ_1, zuJ_2, zuJ_3, zuP_1, zuP_2, zuP_3, zuC_1, zuC_2, reduceIte, Nat.reduceEqDiff, false_and, and_false, true_and, and_true, and_self, or_true, true_or, or_false, false_or] at e33
        refine zs_if_eq (tgt := 43) (pc := 36) C dX9_bounded_36 (by decide) (fun h36 => ?_) (fun h36 => ?_)
        · skip
          refine zs_lload_n (pc := 43) C dX9_bounded_43 rfl ?_
          exact zs_lret (pc := 44) C hr hlk dX9_bounded_44 ⟨by repeat (first | exact zsm_rf | assumption | refine zsm_C (by decide) ?_ | refine zsm_I (by decide) ?_ | refine zsm_J ?_ | refine zsm_c (by assumption) (by decide) ?_), trivial⟩
        · skip
          refine zs_lconst (n := 0) (pc := 39) C dX9_bounded_39 rfl (by decide) ?_
          refine zs_goto (tgt := 44) (pc := 40) C dX9_bounded_40 (by decide) ?_
          exact zs_lret (pc := 44) C hr hlk dX9_bounded_44 ⟨by repeat (first | exact zsm_rf | assumption | refine zsm_C (by decide) ?_ | refine zsm_I (by decide) ?_ | refine zsm_J ?_ | refine zsm_c (by assumption) (by decide) ?_), trivial⟩
      · skip
        refine zs_iconst (pc := 24) C dX9_bounded_24 (by decide) ?_
        refine zs_goto (tgt := 29) (pc := 25) C dX9_bounded_25 (by decide) ?_
        refine zs_putz (r := 1050) (pc := 29) C dX9_bounded_29 w_X9_357 f_10_50 rfl (r_1050 0) (by omega) (by omega) ?_
        refine zs_aload_n (pc := 32) C dX9_bounded_32 rfl ?_
        refine zs_getz (r := 1050) (pc := 33) C dX9_bounded_33 w_X9_357 f_10_50 rfl (r_1050 0) (fun v33 e33 l33 u33 => ?_)
        try simp only [zuI_1, zuI_2, zuJ_1, zuJ_2, zuJ_3, zuP_1, zuP_2, zuP_3, zuC_1, zuC_2, reduceIte, Nat.reduceEqDiff, false_and, and_false, true_and, and_true, and_self, or_true, true_or, or_false, false_or] at e33
        refine zs_if_eq (tgt := 43) (pc := 36) C dX9_bounded_36 (by decide) (fun h36 => ?_) (fun h36 => ?_)
        · skip
          refine zs_lload_n (pc := 43) C dX9_bounded_43 rfl ?_
          exact zs_lret (pc := 44) C hr hlk dX9_bounded_44 ⟨by repeat (first | exact zsm_rf | assumption | refine zsm_C (by decide) ?_ | refine zsm_I (by decide) ?_ | refine zsm_J ?_ | refine zsm_c (by assumption) (by decide) ?_), trivial⟩
        · skip
          refine zs_lconst (n := 0) (pc := 39) C dX9_bounded_39 rfl (by decide) ?_
          refine zs_goto (tgt := 44) (pc := 40) C dX9_bounded_40 (by decide) ?_
          exact zs_lret (pc := 44) C hr hlk dX9_bounded_44 ⟨by repeat (first | exact zsm_rf | assumption | refine zsm_C (by decide) ?_ | refine zsm_I (by decide) ?_ | refine zsm_J ?_ | refine zsm_c (by assumption) (by decide) ?_), trivial⟩

set_option maxHeartbeats 4000000 in
set_option maxRecDepth 100000 in
theorem c_X9_times {l : Launch} {Γ : zΓ} {G : zH} {w : Nat} {a b : Int} (hX : zXs Γ)  : zMet l Γ yX9_times cX9_times 6 (some .long) 0 [zr 10 w, zj a, zj b] G (zpj (fun x G' => zsm [1050] G G' ∧ True)) := by
  refine zMet_of RX9 hX (by decide) rfl (Nat.le_of_ble_eq_true rfl) ?_
  intro p e s m args below meth c C hr hlk
  show Z p l e (zrm 0) s m args below meth c Γ 6 0 0 (MQ below (zQc Γ (zpj (fun x G' => zsm [1050] G G' ∧ True))) args s 0 0 (zA Γ)) 0 [some (zr 10 w), some (zj a), none, some (zj b), none, none] [] G
  refine zs_lload_n (pc := 0) C dX9_times_0 rfl ?_
  refine zs_lconst (n := 0) (pc := 1) C dX9_times_1 rfl (by decide) ?_
  refine zs_lcmp (pc := 2) C dX9_times_2 (fun z2 hz2 => ?_)
  refine zs_if_eq (tgt := 48) (pc := 3) C dX9_times_3 (by decide) (fun h3 => ?_) (fun h3 => ?_)
  · skip
    refine zs_iconst (pc := 48) C dX9_times_48 (by decide) ?_
    refine zs_istore (pc := 49) C dX9_times_49 (by decide) ?_
    dsimp only [zset, zclr, znone]
    refine zs_aload_n (pc := 51) C dX9_times_51 rfl ?_
    refine zs_aload_n (pc := 52) C dX9_times_52 rfl ?_
    refine zs_getz (r := 1050) (pc := 53) C dX9_times_53 w_X9_357 f_10_50 rfl (r_1050 0) (fun v53 e53 l53 u53 => ?_)
    refine zs_if_ne (tgt := 64) (pc := 56) C dX9_times_56 (by decide) (fun h56 => ?_) (fun h56 => ?_)
    · skip
      refine zs_iconst (pc := 64) C dX9_times_64 (by decide) ?_
      refine zs_goto (tgt := 69) (pc := 65) C dX9_times_65 (by decide) ?_
      refine zs_putz (r := 1050) (pc := 69) C dX9_times_69 w_X9_357 f_10_50 rfl (r_1050 0) (by omega) (by omega) ?_
      refine zs_aload_n (pc := 72) C dX9_times_72 rfl ?_
      refine zs_getz (r := 1050) (pc := 73) C dX9_times_73 w_X9_357 f_10_50 rfl (r_1050 0) (fun v73 e73 l73 u73 => ?_)
      try simp only [zuI_1, zuI_2, zuJ_1, zuJ_2, zuJ_3, zuP_1, zuP_2, zuP_3, zuC_1, zuC_2, reduceIte, Nat.reduceEqDiff, false_and, and_false, true_and, and_true, and_self, or_true, true_or, or_false, false_or] at e73
      refine zs_if_eq (tgt := 83) (pc := 76) C dX9_times_76 (by decide) (fun h76 => ?_) (fun h76 => ?_)
      · skip
        refine zs_lload_n (pc := 83) C dX9_times_83 rfl ?_
        refine zs_lload_n (pc := 84) C dX9_times_84 rfl ?_
        refine zs_lmulF (pc := 85) C dX9_times_85 (fun z85 hz851 hz852 => ?_)
        exact zs_lret (pc := 86) C hr hlk dX9_times_86 ⟨by repeat (first | exact zsm_rf | assumption | refine zsm_C (by decide) ?_ | refine zsm_I (by decide) ?_ | refine zsm_J ?_ | refine zsm_c (by assumption) (by decide) ?_), trivial⟩
      · skip
        refine zs_lconst (n := 0) (pc := 79) C dX9_times_79 rfl (by decide) ?_
        refine zs_goto (tgt := 86) (pc := 80) C dX9_times_80 (by decide) ?_
        exact zs_lret (pc := 86) C hr hlk dX9_times_86 ⟨by repeat (first | exact zsm_rf | assumption | refine zsm_C (by decide) ?_ | refine zsm_I (by decide) ?_ | refine zsm_J ?_ | refine zsm_c (by assumption) (by decide) ?_), trivial⟩
    · skip
      refine zs_iload (pc := 59) C dX9_times_59 rfl ?_
      refine zs_if_eq (tgt := 68) (pc := 61) C dX9_times_61 (by decide) (fun h61 => ?_) (fun h61 => ?_)
      · skip
        refine zs_iconst (pc := 68) C dX9_times_68 (by decide) ?_
        refine zs_putz (r := 1050) (pc := 69) C dX9_times_69 w_X9_357 f_10_50 rfl (r_1050 0) (by omega) (by omega) ?_
        refine zs_aload_n (pc := 72) C dX9_times_72 rfl ?_
        refine zs_getz (r := 1050) (pc := 73) C dX9_times_73 w_X9_357 f_10_50 rfl (r_1050 0) (fun v73 e73 l73 u73 => ?_)
        try simp only [zuI_1, zuI_2, zuJ_1, zuJ_2, zuJ_3, zuP_1, zuP_2, zuP_3, zuC_1, zuC_2, reduceIte, Nat.reduceEqDiff, false_and, and_false, true_and, and_true, and_self, or_true, true_or, or_false, false_or] at e73
        refine zs_if_eq (tgt := 83) (pc := 76) C dX9_times_76 (by decide) (fun h76 => ?_) (fun h76 => ?_)
        · skip
          refine zs_lload_n (pc := 83) C dX9_times_83 rfl ?_
          refine zs_lload_n (pc := 84) C dX9_times_84 rfl ?_
          refine zs_lmulF (pc := 85) C dX9_times_85 (fun z85 hz851 hz852 => ?_)
          exact zs_lret (pc := 86) C hr hlk dX9_times_86 ⟨by repeat (first | exact zsm_rf | assumption | refine zsm_C (by decide) ?_ | refine zsm_I (by decide) ?_ | refine zsm_J ?_ | refine zsm_c (by assumption) (by decide) ?_), trivial⟩
        · skip
          refine zs_lconst (n := 0) (pc := 79) C dX9_times_79 rfl (by decide) ?_
          refine zs_goto (tgt := 86) (pc := 80) C dX9_times_80 (by decide) ?_
          exact zs_lret (pc := 86) C hr hlk dX9_times_86 ⟨by repeat (first | exact zsm_rf | assumption | refine zsm_C (by decide) ?_ | refine zsm_I (by decide) ?_ | refine zsm_J ?_ | refine zsm_c (by assumption) (by decide) ?_), trivial⟩
      · skip
        refine zs_iconst (pc := 64) C dX9_times_64 (by decide) ?_
        refine zs_goto (tgt := 69) (pc := 65) C dX9_times_65 (by decide) ?_
        refine zs_putz (r := 1050) (pc := 69) C dX9_times_69 w_X9_357 f_10_50 rfl (r_1050 0) (by omega) (by omega) ?_
        refine zs_aload_n (pc := 72) C dX9_times_72 rfl ?_
        refine zs_getz (r := 1050) (pc := 73) C dX9_times_73 w_X9_357 f_10_50 rfl (r_1050 0) (fun v73 e73 l73 u73 => ?_)
        try simp only [zuI_1, zuI_2, zuJ_1, zuJ_2, zuJ_3, zuP_1, zuP_2, zuP_3, zuC_1, zuC_2, reduceIte, Nat.reduceEqDiff, false_and, and_false, true_and, and_true, and_self, or_true, true_or, or_false, false_or] at e73
        refine zs_if_eq (tgt := 83) (pc := 76) C dX9_times_76 (by decide) (fun h76 => ?_) (fun h76 => ?_)
        · skip
          refine zs_lload_n (pc := 83) C dX9_times_83 rfl ?_
          refine zs_lload_n (pc := 84) C dX9_times_84 rfl ?_
          refine zs_lmulF (pc := 85) C dX9_times_85 (fun z85 hz851 hz852 => ?_)
          exact zs_lret (pc := 86) C hr hlk dX9_times_86 ⟨by repeat (first | exact zsm_rf | assumption | refine zsm_C (by decide) ?_ | refine zsm_I (by decide) ?_ | refine zsm_J ?_ | refine zsm_c (by assumption) (by decide) ?_), trivial⟩
        · skip
          refine zs_lconst (n := 0) (pc := 79) C dX9_times_79 rfl (by decide) ?_
          refine zs_goto (tgt := 86) (pc := 80) C dX9_times_80 (by decide) ?_
          exact zs_lret (pc := 86) C hr hlk dX9_times_86 ⟨by repeat (first | exact zsm_rf | assumption | refine zsm_C (by decide) ?_ | refine zsm_I (by decide) ?_ | refine zsm_J ?_ | refine zsm_c (by assumption) (by decide) ?_), trivial⟩
  · skip
    refine zs_lload_n (pc := 6) C dX9_times_6 rfl ?_
    refine zs_lconst (n := 0) (pc := 7) C dX9_times_7 rfl (by decide) ?_
    refine zs_lcmp (pc := 8) C dX9_times_8 (fun z8 hz8 => ?_)
    refine zs_if_eq (tgt := 48) (pc := 9) C dX9_times_9 (by decide) (fun h9 => ?_) (fun h9 => ?_)
    · skip
      refine zs_iconst (pc := 48) C dX9_times_48 (by decide) ?_
      refine zs_istore (pc := 49) C dX9_times_49 (by decide) ?_
      dsimp only [zset, zclr, znone]
      refine zs_aload_n (pc := 51) C dX9_times_51 rfl ?_
      refine zs_aload_n (pc := 52) C dX9_times_52 rfl ?_
      refine zs_getz (r := 1050) (pc := 53) C dX9_times_53 w_X9_357 f_10_50 rfl (r_1050 0) (fun v53 e53 l53 u53 => ?_)
      refine zs_if_ne (tgt := 64) (pc := 56) C dX9_times_56 (by decide) (fun h56 => ?_) (fun h56 => ?_)
      · skip
        refine zs_iconst (pc := 64) C dX9_times_64 (by decide) ?_
        refine zs_goto (tgt := 69) (pc := 65) C dX9_times_65 (by decide) ?_
        refine zs_putz (r := 1050) (pc := 69) C dX9_times_69 w_X9_357 f_10_50 rfl (r_1050 0) (by omega) (by omega) ?_
        refine zs_aload_n (pc := 72) C dX9_times_72 rfl ?_
        refine zs_getz (r := 1050) (pc := 73) C dX9_times_73 w_X9_357 f_10_50 rfl (r_1050 0) (fun v73 e73 l73 u73 => ?_)
        try simp only [zuI_1, zuI_2, zuJ_1, zuJ_2, zuJ_3, zuP_1, zuP_2, zuP_3, zuC_1, zuC_2, reduceIte, Nat.reduceEqDiff, false_and, and_false, true_and, and_true, and_self, or_true, true_or, or_false, false_or] at e73
        refine zs_if_eq (tgt := 83) (pc := 76) C dX9_times_76 (by decide) (fun h76 => ?_) (fun h76 => ?_)
        · skip
          refine zs_lload_n (pc := 83) C dX9_times_83 rfl ?_
          refine zs_lload_n (pc := 84) C dX9_times_84 rfl ?_
          refine zs_lmulF (pc := 85) C dX9_times_85 (fun z85 hz851 hz852 => ?_)
          exact zs_lret (pc := 86) C hr hlk dX9_times_86 ⟨by repeat (first | exact zsm_rf | assumption | refine zsm_C (by decide) ?_ | refine zsm_I (by decide) ?_ | refine zsm_J ?_ | refine zsm_c (by assumption) (by decide) ?_), trivial⟩
        · skip
          refine zs_lconst (n := 0) (pc := 79) C dX9_times_79 rfl (by decide) ?_
          refine zs_goto (tgt := 86) (pc := 80) C dX9_times_80 (by decide) ?_
          exact zs_lret (pc := 86) C hr hlk dX9_times_86 ⟨by repeat (first | exact zsm_rf | assumption | refine zsm_C (by decide) ?_ | refine zsm_I (by decide) ?_ | refine zsm_J ?_ | refine zsm_c (by assumption) (by decide) ?_), trivial⟩
      · skip
        refine zs_iload (pc := 59) C dX9_times_59 rfl ?_
        refine zs_if_eq (tgt := 68) (pc := 61) C dX9_times_61 (by decide) (fun h61 => ?_) (fun h61 => ?_)
        · skip
          refine zs_iconst (pc := 68) C dX9_times_68 (by decide) ?_
          refine zs_putz (r := 1050) (pc := 69) C dX9_times_69 w_X9_357 f_10_50 rfl (r_1050 0) (by omega) (by omega) ?_
          refine zs_aload_n (pc := 72) C dX9_times_72 rfl ?_
          refine zs_getz (r := 1050) (pc := 73) C dX9_times_73 w_X9_357 f_10_50 rfl (r_1050 0) (fun v73 e73 l73 u73 => ?_)
          try simp only [zuI_1, zuI_2, zuJ_1, zuJ_2, zuJ_3, zuP_1, zuP_2, zuP_3, zuC_1, zuC_2, reduceIte, Nat.reduceEqDiff, false_and, and_false, true_and, and_true, and_self, or_true, true_or, or_false, false_or] at e73
          refine zs_if_eq (tgt := 83) (pc := 76) C dX9_times_76 (by decide) (fun h76 => ?_) (fun h76 => ?_)
          · skip
            refine zs_lload_n (pc := 83) C dX9_times_83 rfl ?_
            refine zs_lload_n (pc := 84) C dX9_times_84 rfl ?_
            refine zs_lmulF (pc := 85) C dX9_times_85 (fun z85 hz851 hz852 => ?_)
            exact zs_lret (pc := 86) C hr hlk dX9_times_86 ⟨by repeat (first | exact zsm_rf | assumption | refine zsm_C (by decide) ?_ | refine zsm_I (by decide) ?_ | refine zsm_J ?_ | refine zsm_c (by assumption) (by decide) ?_), trivial⟩
          · skip
            refine zs_lconst (n := 0) (pc := 79) C dX9_times_79 rfl (by decide) ?_
            refine zs_goto (tgt := 86) (pc := 80) C dX9_times_80 (by decide) ?_
            exact zs_lret (pc := 86) C hr hlk dX9_times_86 ⟨by repeat (first | exact zsm_rf | assumption | refine zsm_C (by decide) ?_ | refine zsm_I (by decide) ?_ | refine zsm_J ?_ | refine zsm_c (by assumption) (by decide) ?_), trivial⟩
        · skip
          refine zs_iconst (pc := 64) C dX9_times_64 (by decide) ?_
          refine zs_goto (tgt := 69) (pc := 65) C dX9_times_65 (by decide) ?_
          refine zs_putz (r := 1050) (pc := 69) C dX9_times_69 w_X9_357 f_10_50 rfl (r_1050 0) (by omega) (by omega) ?_
          refine zs_aload_n (pc := 72) C dX9_times_72 rfl ?_
          refine zs_getz (r := 1050) (pc := 73) C dX9_times_73 w_X9_357 f_10_50 rfl (r_1050 0) (fun v73 e73 l73 u73 => ?_)
          try simp only [zuI_1, zuI_2, zuJ_1, zuJ_2, zuJ_3, zuP_1, zuP_2, zuP_3, zuC_1, zuC_2, reduceIte, Nat.reduceEqDiff, false_and, and_false, true_and, and_true, and_self, or_true, true_or, or_false, false_or] at e73
          refine zs_if_eq (tgt := 83) (pc := 76) C dX9_times_76 (by decide) (fun h76 => ?_) (fun h76 => ?_)
          · skip
            refine zs_lload_n (pc := 83) C dX9_times_83 rfl ?_
            refine zs_lload_n (pc := 84) C dX9_times_84 rfl ?_
            refine zs_lmulF (pc := 85) C dX9_times_85 (fun z85 hz851 hz852 => ?_)
            exact zs_lret (pc := 86) C hr hlk dX9_times_86 ⟨by repeat (first | exact zsm_rf | assumption | refine zsm_C (by decide) ?_ | refine zsm_I (by decide) ?_ | refine zsm_J ?_ | refine zsm_c (by assumption) (by decide) ?_), trivial⟩
          · skip
            refine zs_lconst (n := 0) (pc := 79) C dX9_times_79 rfl (by decide) ?_
            refine zs_goto (tgt := 86) (pc := 80) C dX9_times_80 (by decide) ?_
            exact zs_lret (pc := 86) C hr hlk dX9_times_86 ⟨by repeat (first | exact zsm_rf | assumption | refine zsm_C (by decide) ?_ | refine zsm_I (by decide) ?_ | refine zsm_J ?_ | refine zsm_c (by assumption) (by decide) ?_), trivial⟩
    · skip
      refine zs_lload_n (pc := 12) C dX9_times_12 rfl ?_
      refine zs_lconst (n := 0) (pc := 13) C dX9_times_13 rfl (by decide) ?_
      refine zs_lcmp (pc := 14) C dX9_times_14 (fun z14 hz14 => ?_)
      refine zs_if_ge (tgt := 23) (pc := 15) C dX9_times_15 (by decide) (fun h15 => ?_) (fun h15 => ?_)
      · skip
        refine zs_lload_n (pc := 23) C dX9_times_23 rfl ?_
        refine zs_ldc2 (n := 1000000000000) (pc := 24) C dX9_times_24 q_X9_360 (by decide) (by decide) ?_
        refine zs_lload_n (pc := 27) C dX9_times_27 rfl ?_
        refine zs_lconst (n := 0) (pc := 28) C dX9_times_28 rfl (by decide) ?_
        refine zs_lcmp (pc := 29) C dX9_times_29 (fun z29 hz29 => ?_)
        refine zs_if_ge (tgt := 38) (pc := 30) C dX9_times_30 (by decide) (fun h30 => ?_) (fun h30 => ?_)
        · skip
          refine zs_lload_n (pc := 38) C dX9_times_38 rfl ?_
          refine zs_ldiv (pc := 39) C dX9_times_39 (by omega) (fun z39 hz391 hz392 => ?_)
          refine zs_lcmp (pc := 40) C dX9_times_40 (fun z40 hz40 => ?_)
          refine zs_if_le (tgt := 48) (pc := 41) C dX9_times_41 (by decide) (fun h41 => ?_) (fun h41 => ?_)
          · skip
            refine zs_iconst (pc := 48) C dX9_times_48 (by decide) ?_
            refine zs_istore (pc := 49) C dX9_times_49 (by decide) ?_
            dsimp only [zset, zclr, znone]
            refine zs_aload_n (pc := 51) C dX9_times_51 rfl ?_
            refine zs_aload_n (pc := 52) C dX9_times_52 rfl ?_
            refine zs_getz (r := 1050) (pc := 53) C dX9_times_53 w_X9_357 f_10_50 rfl (r_1050 0) (fun v53 e53 l53 u53 => ?_)
            refine zs_if_ne (tgt := 64) (pc := 56) C dX9_times_56 (by decide) (fun h56 => ?_) (fun h56 => ?_)
            · skip
              refine zs_iconst (pc := 64) C dX9_times_64 (by decide) ?_
              refine zs_goto (tgt := 69) (pc := 65) C dX9_times_65 (by decide) ?_
              refine zs_putz (r := 1050) (pc := 69) C dX9_times_69 w_X9_357 f_10_50 rfl (r_1050 0) (by omega) (by omega) ?_
              refine zs_aload_n (pc := 72) C dX9_times_72 rfl ?_
              refine zs_getz (r := 1050) (pc := 73) C dX9_times_73 w_X9_357 f_10_50 rfl (r_1050 0) (fun v73 e73 l73 u73 => ?_)
              try simp only [zuI_1, zuI_2, zuJ_1, zuJ_2, zuJ_3, zuP_1, zuP_2, zuP_3, zuC_1, zuC_2, reduceIte, Nat.reduceEqDiff, false_and, and_false, true_and, and_true, and_self, or_true, true_or, or_false, false_or] at e73
              refine zs_if_eq (tgt := 83) (pc := 76) C dX9_times_76 (by decide) (fun h76 => ?_) (fun h76 => ?_)
              · skip
                refine zs_lload_n (pc := 83) C dX9_times_83 rfl ?_
                refine zs_lload_n (pc := 84) C dX9_times_84 rfl ?_
                refine zs_lmulF (pc := 85) C dX9_times_85 (fun z85 hz851 hz852 => ?_)
                exact zs_lret (pc := 86) C hr hlk dX9_times_86 ⟨by repeat (first | exact zsm_rf | assumption | refine zsm_C (by decide) ?_ | refine zsm_I (by decide) ?_ | refine zsm_J ?_ | refine zsm_c (by assumption) (by decide) ?_), trivial⟩
              · skip
                refine zs_lconst (n := 0) (pc := 79) C dX9_times_79 rfl (by decide) ?_
                refine zs_goto (tgt := 86) (pc := 80) C dX9_times_80 (by decide) ?_
                exact zs_lret (pc := 86) C hr hlk dX9_times_86 ⟨by repeat (first | exact zsm_rf | assumption | refine zsm_C (by decide) ?_ | refine zsm_I (by decide) ?_ | refine zsm_J ?_ | refine zsm_c (by assumption) (by decide) ?_), trivial⟩
            · skip
              refine zs_iload (pc := 59) C dX9_times_59 rfl ?_
              refine zs_if_eq (tgt := 68) (pc := 61) C dX9_times_61 (by decide) (fun h61 => ?_) (fun h61 => ?_)
              · skip
                refine zs_iconst (pc := 68) C dX9_times_68 (by decide) ?_
                refine zs_putz (r := 1050) (pc := 69) C dX9_times_69 w_X9_357 f_10_50 rfl (r_1050 0) (by omega) (by omega) ?_
                refine zs_aload_n (pc := 72) C dX9_times_72 rfl ?_
                refine zs_getz (r := 1050) (pc := 73) C dX9_times_73 w_X9_357 f_10_50 rfl (r_1050 0) (fun v73 e73 l73 u73 => ?_)
                try simp only [zuI_1, zuI_2, zuJ_1, zuJ_2, zuJ_3, zuP_1, zuP_2, zuP_3, zuC_1, zuC_2, reduceIte, Nat.reduceEqDiff, false_and, and_false, true_and, and_true, and_self, or_true, true_or, or_false, false_or] at e73
                refine zs_if_eq (tgt := 83) (pc := 76) C dX9_times_76 (by decide) (fun h76 => ?_) (fun h76 => ?_)
                · skip
                  refine zs_lload_n (pc := 83) C dX9_times_83 rfl ?_
                  refine zs_lload_n (pc := 84) C dX9_times_84 rfl ?_
                  refine zs_lmulF (pc := 85) C dX9_times_85 (fun z85 hz851 hz852 => ?_)
                  exact zs_lret (pc := 86) C hr hlk dX9_times_86 ⟨by repeat (first | exact zsm_rf | assumption | refine zsm_C (by decide) ?_ | refine zsm_I (by decide) ?_ | refine zsm_J ?_ | refine zsm_c (by assumption) (by decide) ?_), trivial⟩
                · skip
                  refine zs_lconst (n := 0) (pc := 79) C dX9_times_79 rfl (by decide) ?_
                  refine zs_goto (tgt := 86) (pc := 80) C dX9_times_80 (by decide) ?_
                  exact zs_lret (pc := 86) C hr hlk dX9_times_86 ⟨by repeat (first | exact zsm_rf | assumption | refine zsm_C (by decide) ?_ | refine zsm_I (by decide) ?_ | refine zsm_J ?_ | refine zsm_c (by assumption) (by decide) ?_), trivial⟩
              · skip
                refine zs_iconst (pc := 64) C dX9_times_64 (by decide) ?_
                refine zs_goto (tgt := 69) (pc := 65) C dX9_times_65 (by decide) ?_
                refine zs_putz (r := 1050) (pc := 69) C dX9_times_69 w_X9_357 f_10_50 rfl (r_1050 0) (by omega) (by omega) ?_
                refine zs_aload_n (pc := 72) C dX9_times_72 rfl ?_
                refine zs_getz (r := 1050) (pc := 73) C dX9_times_73 w_X9_357 f_10_50 rfl (r_1050 0) (fun v73 e73 l73 u73 => ?_)
                try simp only [zuI_1, zuI_2, zuJ_1, zuJ_2, zuJ_3, zuP_1, zuP_2, zuP_3, zuC_1, zuC_2, reduceIte, Nat.reduceEqDiff, false_and, and_false, true_and, and_true, and_self, or_true, true_or, or_false, false_or] at e73
                refine zs_if_eq (tgt := 83) (pc := 76) C dX9_times_76 (by decide) (fun h76 => ?_) (fun h76 => ?_)
                · skip
                  refine zs_lload_n (pc := 83) C dX9_times_83 rfl ?_
                  refine zs_lload_n (pc := 84) C dX9_times_84 rfl ?_
                  refine zs_lmulF (pc := 85) C dX9_times_85 (fun z85 hz851 hz852 => ?_)
                  exact zs_lret (pc := 86) C hr hlk dX9_times_86 ⟨by repeat (first | exact zsm_rf | assumption | refine zsm_C (by decide) ?_ | refine zsm_I (by decide) ?_ | refine zsm_J ?_ | refine zsm_c (by assumption) (by decide) ?_), trivial⟩
                · skip
                  refine zs_lconst (n := 0) (pc := 79) C dX9_times_79 rfl (by decide) ?_
                  refine zs_goto (tgt := 86) (pc := 80) C dX9_times_80 (by decide) ?_
                  exact zs_lret (pc := 86) C hr hlk dX9_times_86 ⟨by repeat (first | exact zsm_rf | assumption | refine zsm_C (by decide) ?_ | refine zsm_I (by decide) ?_ | refine zsm_J ?_ | refine zsm_c (by assumption) (by decide) ?_), trivial⟩
          · skip
            refine zs_iconst (pc := 44) C dX9_times_44 (by decide) ?_
            refine zs_goto (tgt := 49) (pc := 45) C dX9_times_45 (by decide) ?_
            refine zs_istore (pc := 49) C dX9_times_49 (by decide) ?_
            dsimp only [zset, zclr, znone]
            refine zs_aload_n (pc := 51) C dX9_times_51 rfl ?_
            refine zs_aload_n (pc := 52) C dX9_times_52 rfl ?_
            refine zs_getz (r := 1050) (pc := 53) C dX9_times_53 w_X9_357 f_10_50 rfl (r_1050 0) (fun v53 e53 l53 u53 => ?_)
            refine zs_if_ne (tgt := 64) (pc := 56) C dX9_times_56 (by decide) (fun h56 => ?_) (fun h56 => ?_)
            · skip
              refine zs_iconst (pc := 64) C dX9_times_64 (by decide) ?_
              refine zs_goto (tgt := 69) (pc := 65) C dX9_times_65 (by decide) ?_
              refine zs_putz (r := 1050) (pc := 69) C dX9_times_69 w_X9_357 f_10_50 rfl (r_1050 0) (by omega) (by omega) ?_
              refine zs_aload_n (pc := 72) C dX9_times_72 rfl ?_
              refine zs_getz (r := 1050) (pc := 73) C dX9_times_73 w_X9_357 f_10_50 rfl (r_1050 0) (fun v73 e73 l73 u73 => ?_)
              try simp only [zuI_1, zuI_2, zuJ_1, zuJ_2, zuJ_3, zuP_1, zuP_2, zuP_3, zuC_1, zuC_2, reduceIte, Nat.reduceEqDiff, false_and, and_false, true_and, and_true, and_self, or_true, true_or, or_false, false_or] at e73
              refine zs_if_eq (tgt := 83) (pc := 76) C dX9_times_76 (by decide) (fun h76 => ?_) (fun h76 => ?_)
              · skip
                refine zs_lload_n (pc := 83) C dX9_times_83 rfl ?_
                refine zs_lload_n (pc := 84) C dX9_times_84 rfl ?_
                refine zs_lmulF (pc := 85) C dX9_times_85 (fun z85 hz851 hz852 => ?_)
                exact zs_lret (pc := 86) C hr hlk dX9_times_86 ⟨by repeat (first | exact zsm_rf | assumption | refine zsm_C (by decide) ?_ | refine zsm_I (by decide) ?_ | refine zsm_J ?_ | refine zsm_c (by assumption) (by decide) ?_), trivial⟩
              · skip
                refine zs_lconst (n := 0) (pc := 79) C dX9_times_79 rfl (by decide) ?_
                refine zs_goto (tgt := 86) (pc := 80) C dX9_times_80 (by decide) ?_
                exact zs_lret (pc := 86) C hr hlk dX9_times_86 ⟨by repeat (first | exact zsm_rf | assumption | refine zsm_C (by decide) ?_ | refine zsm_I (by decide) ?_ | refine zsm_J ?_ | refine zsm_c (by assumption) (by decide) ?_), trivial⟩
            · skip
              refine zs_iload (pc := 59) C dX9_times_59 rfl ?_
              refine zs_if_eq (tgt := 68) (pc := 61) C dX9_times_61 (by decide) (fun h61 => ?_) (fun h61 => ?_)
              · skip
                refine zs_iconst (pc := 68) C dX9_times_68 (by decide) ?_
                refine zs_putz (r := 1050) (pc := 69) C dX9_times_69 w_X9_357 f_10_50 rfl (r_1050 0) (by omega) (by omega) ?_
                refine zs_aload_n (pc := 72) C dX9_times_72 rfl ?_
                refine zs_getz (r := 1050) (pc := 73) C dX9_times_73 w_X9_357 f_10_50 rfl (r_1050 0) (fun v73 e73 l73 u73 => ?_)
                try simp only [zuI_1, zuI_2, zuJ_1, zuJ_2, zuJ_3, zuP_1, zuP_2, zuP_3, zuC_1, zuC_2, reduceIte, Nat.reduceEqDiff, false_and, and_false, true_and, and_true, and_self, or_true, true_or, or_false, false_or] at e73
                refine zs_if_eq (tgt := 83) (pc := 76) C dX9_times_76 (by decide) (fun h76 => ?_) (fun h76 => ?_)
                · skip
                  refine zs_lload_n (pc := 83) C dX9_times_83 rfl ?_
                  refine zs_lload_n (pc := 84) C dX9_times_84 rfl ?_
                  refine zs_lmulF (pc := 85) C dX9_times_85 (fun z85 hz851 hz852 => ?_)
                  exact zs_lret (pc := 86) C hr hlk dX9_times_86 ⟨by repeat (first | exact zsm_rf | assumption | refine zsm_C (by decide) ?_ | refine zsm_I (by decide) ?_ | refine zsm_J ?_ | refine zsm_c (by assumption) (by decide) ?_), trivial⟩
                · skip
                  refine zs_lconst (n := 0) (pc := 79) C dX9_times_79 rfl (by decide) ?_
                  refine zs_goto (tgt := 86) (pc := 80) C dX9_times_80 (by decide) ?_
                  exact zs_lret (pc := 86) C hr hlk dX9_times_86 ⟨by repeat (first | exact zsm_rf | assumption | refine zsm_C (by decide) ?_ | refine zsm_I (by decide) ?_ | refine zsm_J ?_ | refine zsm_c (by assumption) (by decide) ?_), trivial⟩
              · skip
                refine zs_iconst (pc := 64) C dX9_times_64 (by decide) ?_
                refine zs_goto (tgt := 69) (pc := 65) C dX9_times_65 (by decide) ?_
                refine zs_putz (r := 1050) (pc := 69) C dX9_times_69 w_X9_357 f_10_50 rfl (r_1050 0) (by omega) (by omega) ?_
                refine zs_aload_n (pc := 72) C dX9_times_72 rfl ?_
                refine zs_getz (r := 1050) (pc := 73) C dX9_times_73 w_X9_357 f_10_50 rfl (r_1050 0) (fun v73 e73 l73 u73 => ?_)
                try simp only [zuI_1, zuI_2, zuJ_1, zuJ_2, zuJ_3, zuP_1, zuP_2, zuP_3, zuC_1, zuC_2, reduceIte, Nat.reduceEqDiff, false_and, and_false, true_and, and_true, and_self, or_true, true_or, or_false, false_or] at e73
                refine zs_if_eq (tgt := 83) (pc := 76) C dX9_times_76 (by decide) (fun h76 => ?_) (fun h76 => ?_)
                · skip
                  refine zs_lload_n (pc := 83) C dX9_times_83 rfl ?_
                  refine zs_lload_n (pc := 84) C dX9_times_84 rfl ?_
                  refine zs_lmulF (pc := 85) C dX9_times_85 (fun z85 hz851 hz852 => ?_)
                  exact zs_lret (pc := 86) C hr hlk dX9_times_86 ⟨by repeat (first | exact zsm_rf | assumption | refine zsm_C (by decide) ?_ | refine zsm_I (by decide) ?_ | refine zsm_J ?_ | refine zsm_c (by assumption) (by decide) ?_), trivial⟩
                · skip
                  refine zs_lconst (n := 0) (pc := 79) C dX9_times_79 rfl (by decide) ?_
                  refine zs_goto (tgt := 86) (pc := 80) C dX9_times_80 (by decide) ?_
                  exact zs_lret (pc := 86) C hr hlk dX9_times_86 ⟨by repeat (first | exact zsm_rf | assumption | refine zsm_C (by decide) ?_ | refine zsm_I (by decide) ?_ | refine zsm_J ?_ | refine zsm_c (by assumption) (by decide) ?_), trivial⟩
        · skip
          refine zs_lload_n (pc := 33) C dX9_times_33 rfl ?_
          refine zs_lneg (pc := 34) C dX9_times_34 (fun z34 hz341 hz342 hz343 => ?_)
          refine zs_goto (tgt := 39) (pc := 35) C dX9_times_35 (by decide) ?_
          refine zs_ldiv (pc := 39) C dX9_times_39 (by omega) (fun z39 hz391 hz392 => ?_)
          refine zs_lcmp (pc := 40) C dX9_times_40 (fun z40 hz40 => ?_)
          refine zs_if_le (tgt := 48) (pc := 41) C dX9_times_41 (by decide) (fun h41 => ?_) (fun h41 => ?_)
          · skip
            refine zs_iconst (pc := 48) C dX9_times_48 (by decide) ?_
            refine zs_istore (pc := 49) C dX9_times_49 (by decide) ?_
            dsimp only [zset, zclr, znone]
            refine zs_aload_n (pc := 51) C dX9_times_51 rfl ?_
            refine zs_aload_n (pc := 52) C dX9_times_52 rfl ?_
            refine zs_getz (r := 1050) (pc := 53) C dX9_times_53 w_X9_357 f_10_50 rfl (r_1050 0) (fun v53 e53 l53 u53 => ?_)
            refine zs_if_ne (tgt := 64) (pc := 56) C dX9_times_56 (by decide) (fun h56 => ?_) (fun h56 => ?_)
            · skip
              refine zs_iconst (pc := 64) C dX9_times_64 (by decide) ?_
              refine zs_goto (tgt := 69) (pc := 65) C dX9_times_65 (by decide) ?_
              refine zs_putz (r := 1050) (pc := 69) C dX9_times_69 w_X9_357 f_10_50 rfl (r_1050 0) (by omega) (by omega) ?_
              refine zs_aload_n (pc := 72) C dX9_times_72 rfl ?_
              refine zs_getz (r := 1050) (pc := 73) C dX9_times_73 w_X9_357 f_10_50 rfl (r_1050 0) (fun v73 e73 l73 u73 => ?_)
              try simp only [zuI_1, zuI_2, zuJ_1, zuJ_2, zuJ_3, zuP_1, zuP_2, zuP_3, zuC_1, zuC_2, reduceIte, Nat.reduceEqDiff, false_and, and_false, true_and, and_true, and_self, or_true, true_or, or_false, false_or] at e73
              refine zs_if_eq (tgt := 83) (pc := 76) C dX9_times_76 (by decide) (fun h76 => ?_) (fun h76 => ?_)
              · skip
                refine zs_lload_n (pc := 83) C dX9_times_83 rfl ?_
                refine zs_lload_n (pc := 84) C dX9_times_84 rfl ?_
                refine zs_lmulF (pc := 85) C dX9_times_85 (fun z85 hz851 hz852 => ?_)
                exact zs_lret (pc := 86) C hr hlk dX9_times_86 ⟨by repeat (first | exact zsm_rf | assumption | refine zsm_C (by decide) ?_ | refine zsm_I (by decide) ?_ | refine zsm_J ?_ | refine zsm_c (by assumption) (by decide) ?_), trivial⟩
              · skip
                refine zs_lconst (n := 0) (pc := 79) C dX9_times_79 rfl (by decide) ?_
                refine zs_goto (tgt := 86) (pc := 80) C dX9_times_80 (by decide) ?_
                exact zs_lret (pc := 86) C hr hlk dX9_times_86 ⟨by repeat (first | exact zsm_rf | assumption | refine zsm_C (by decide) ?_ | refine zsm_I (by decide) ?_ | refine zsm_J ?_ | refine zsm_c (by assumption) (by decide) ?_), trivial⟩
            · skip
              refine zs_iload (pc := 59) C dX9_times_59 rfl ?_
              refine zs_if_eq (tgt := 68) (pc := 61) C dX9_times_61 (by decide) (fun h61 => ?_) (fun h61 => ?_)
              · skip
                refine zs_iconst (pc := 68) C dX9_times_68 (by decide) ?_
                refine zs_putz (r := 1050) (pc := 69) C dX9_times_69 w_X9_357 f_10_50 rfl (r_1050 0) (by omega) (by omega) ?_
                refine zs_aload_n (pc := 72) C dX9_times_72 rfl ?_
                refine zs_getz (r := 1050) (pc := 73) C dX9_times_73 w_X9_357 f_10_50 rfl (r_1050 0) (fun v73 e73 l73 u73 => ?_)
                try simp only [zuI_1, zuI_2, zuJ_1, zuJ_2, zuJ_3, zuP_1, zuP_2, zuP_3, zuC_1, zuC_2, reduceIte, Nat.reduceEqDiff, false_and, and_false, true_and, and_true, and_self, or_true, true_or, or_false, false_or] at e73
                refine zs_if_eq (tgt := 83) (pc := 76) C dX9_times_76 (by decide) (fun h76 => ?_) (fun h76 => ?_)
                · skip
                  refine zs_lload_n (pc := 83) C dX9_times_83 rfl ?_
                  refine zs_lload_n (pc := 84) C dX9_times_84 rfl ?_
                  refine zs_lmulF (pc := 85) C dX9_times_85 (fun z85 hz851 hz852 => ?_)
                  exact zs_lret (pc := 86) C hr hlk dX9_times_86 ⟨by repeat (first | exact zsm_rf | assumption | refine zsm_C (by decide) ?_ | refine zsm_I (by decide) ?_ | refine zsm_J ?_ | refine zsm_c (by assumption) (by decide) ?_), trivial⟩
                · skip
                  refine zs_lconst (n := 0) (pc := 79) C dX9_times_79 rfl (by decide) ?_
                  refine zs_goto (tgt := 86) (pc := 80) C dX9_times_80 (by decide) ?_
                  exact zs_lret (pc := 86) C hr hlk dX9_times_86 ⟨by repeat (first | exact zsm_rf | assumption | refine zsm_C (by decide) ?_ | refine zsm_I (by decide) ?_ | refine zsm_J ?_ | refine zsm_c (by assumption) (by decide) ?_), trivial⟩
              · skip
                refine zs_iconst (pc := 64) C dX9_times_64 (by decide) ?_
                refine zs_goto (tgt := 69) (pc := 65) C dX9_times_65 (by decide) ?_
                refine zs_putz (r := 1050) (pc := 69) C dX9_times_69 w_X9_357 f_10_50 rfl (r_1050 0) (by omega) (by omega) ?_
                refine zs_aload_n (pc := 72) C dX9_times_72 rfl ?_
                refine zs_getz (r := 1050) (pc := 73) C dX9_times_73 w_X9_357 f_10_50 rfl (r_1050 0) (fun v73 e73 l73 u73 => ?_)
                try simp only [zuI_1, zuI_2, zuJ_1, zuJ_2, zuJ_3, zuP_1, zuP_2, zuP_3, zuC_1, zuC_2, reduceIte, Nat.reduceEqDiff, false_and, and_false, true_and, and_true, and_self, or_true, true_or, or_false, false_or] at e73
                refine zs_if_eq (tgt := 83) (pc := 76) C dX9_times_76 (by decide) (fun h76 => ?_) (fun h76 => ?_)
                · skip
                  refine zs_lload_n (pc := 83) C dX9_times_83 rfl ?_
                  refine zs_lload_n (pc := 84) C dX9_times_84 rfl ?_
                  refine zs_lmulF (pc := 85) C dX9_times_85 (fun z85 hz851 hz852 => ?_)
                  exact zs_lret (pc := 86) C hr hlk dX9_times_86 ⟨by repeat (first | exact zsm_rf | assumption | refine zsm_C (by decide) ?_ | refine zsm_I (by decide) ?_ | refine zsm_J ?_ | refine zsm_c (by assumption) (by decide) ?_), trivial⟩
                · skip
                  refine zs_lconst (n := 0) (pc := 79) C dX9_times_79 rfl (by decide) ?_
                  refine zs_goto (tgt := 86) (pc := 80) C dX9_times_80 (by decide) ?_
                  exact zs_lret (pc := 86) C hr hlk dX9_times_86 ⟨by repeat (first | exact zsm_rf | assumption | refine zsm_C (by decide) ?_ | refine zsm_I (by decide) ?_ | refine zsm_J ?_ | refine zsm_c (by assumption) (by decide) ?_), trivial⟩
          · skip
            refine zs_iconst (pc := 44) C dX9_times_44 (by decide) ?_
            refine zs_goto (tgt := 49) (pc := 45) C dX9_times_45 (by decide) ?_
            refine zs_istore (pc := 49) C dX9_times_49 (by decide) ?_
            dsimp only [zset, zclr, znone]
            refine zs_aload_n (pc := 51) C dX9_times_51 rfl ?_
            refine zs_aload_n (pc := 52) C dX9_times_52 rfl ?_
            refine zs_getz (r := 1050) (pc := 53) C dX9_times_53 w_X9_357 f_10_50 rfl (r_1050 0) (fun v53 e53 l53 u53 => ?_)
            refine zs_if_ne (tgt := 64) (pc := 56) C dX9_times_56 (by decide) (fun h56 => ?_) (fun h56 => ?_)
            · skip
              refine zs_iconst (pc := 64) C dX9_times_64 (by decide) ?_
              refine zs_goto (tgt := 69) (pc := 65) C dX9_times_65 (by decide) ?_
              refine zs_putz (r := 1050) (pc := 69) C dX9_times_69 w_X9_357 f_10_50 rfl (r_1050 0) (by omega) (by omega) ?_
              refine zs_aload_n (pc := 72) C dX9_times_72 rfl ?_
              refine zs_getz (r := 1050) (pc := 73) C dX9_times_73 w_X9_357 f_10_50 rfl (r_1050 0) (fun v73 e73 l73 u73 => ?_)
              try simp only [zuI_1, zuI_2, zuJ_1, zuJ_2, zuJ_3, zuP_1, zuP_2, zuP_3, zuC_1, zuC_2, reduceIte, Nat.reduceEqDiff, false_and, and_false, true_and, and_true, and_self, or_true, true_or, or_false, false_or] at e73
              refine zs_if_eq (tgt := 83) (pc := 76) C dX9_times_76 (by decide) (fun h76 => ?_) (fun h76 => ?_)
              · skip
                refine zs_lload_n (pc := 83) C dX9_times_83 rfl ?_
                refine zs_lload_n (pc := 84) C dX9_times_84 rfl ?_
                refine zs_lmulF (pc := 85) C dX9_times_85 (fun z85 hz851 hz852 => ?_)
                exact zs_lret (pc := 86) C hr hlk dX9_times_86 ⟨by repeat (first | exact zsm_rf | assumption | refine zsm_C (by decide) ?_ | refine zsm_I (by decide) ?_ | refine zsm_J ?_ | refine zsm_c (by assumption) (by decide) ?_), trivial⟩
              · skip
                refine zs_lconst (n := 0) (pc := 79) C dX9_times_79 rfl (by decide) ?_
                refine zs_goto (tgt := 86) (pc := 80) C dX9_times_80 (by decide) ?_
                exact zs_lret (pc := 86) C hr hlk dX9_times_86 ⟨by repeat (first | exact zsm_rf | assumption | refine zsm_C (by decide) ?_ | refine zsm_I (by decide) ?_ | refine zsm_J ?_ | refine zsm_c (by assumption) (by decide) ?_), trivial⟩
            · skip
              refine zs_iload (pc := 59) C dX9_times_59 rfl ?_
              refine zs_if_eq (tgt := 68) (pc := 61) C dX9_times_61 (by decide) (fun h61 => ?_) (fun h61 => ?_)
              · skip
                refine zs_iconst (pc := 68) C dX9_times_68 (by decide) ?_
                refine zs_putz (r := 1050) (pc := 69) C dX9_times_69 w_X9_357 f_10_50 rfl (r_1050 0) (by omega) (by omega) ?_
                refine zs_aload_n (pc := 72) C dX9_times_72 rfl ?_
                refine zs_getz (r := 1050) (pc := 73) C dX9_times_73 w_X9_357 f_10_50 rfl (r_1050 0) (fun v73 e73 l73 u73 => ?_)
                try simp only [zuI_1, zuI_2, zuJ_1, zuJ_2, zuJ_3, zuP_1, zuP_2, zuP_3, zuC_1, zuC_2, reduceIte, Nat.reduceEqDiff, false_and, and_false, true_and, and_true, and_self, or_true, true_or, or_false, false_or] at e73
                refine zs_if_eq (tgt := 83) (pc := 76) C dX9_times_76 (by decide) (fun h76 => ?_) (fun h76 => ?_)
                · skip
                  refine zs_lload_n (pc := 83) C dX9_times_83 rfl ?_
                  refine zs_lload_n (pc := 84) C dX9_times_84 rfl ?_
                  refine zs_lmulF (pc := 85) C dX9_times_85 (fun z85 hz851 hz852 => ?_)
                  exact zs_lret (pc := 86) C hr hlk dX9_times_86 ⟨by repeat (first | exact zsm_rf | assumption | refine zsm_C (by decide) ?_ | refine zsm_I (by decide) ?_ | refine zsm_J ?_ | refine zsm_c (by assumption) (by decide) ?_), trivial⟩
                · skip
                  refine zs_lconst (n := 0) (pc := 79) C dX9_times_79 rfl (by decide) ?_
                  refine zs_goto (tgt := 86) (pc := 80) C dX9_times_80 (by decide) ?_
                  exact zs_lret (pc := 86) C hr hlk dX9_times_86 ⟨by repeat (first | exact zsm_rf | assumption | refine zsm_C (by decide) ?_ | refine zsm_I (by decide) ?_ | refine zsm_J ?_ | refine zsm_c (by assumption) (by decide) ?_), trivial⟩
              · skip
                refine zs_iconst (pc := 64) C dX9_times_64 (by decide) ?_
                refine zs_goto (tgt := 69) (pc := 65) C dX9_times_65 (by decide) ?_
                refine zs_putz (r := 1050) (pc := 69) C dX9_times_69 w_X9_357 f_10_50 rfl (r_1050 0) (by omega) (by omega) ?_
                refine zs_aload_n (pc := 72) C dX9_times_72 rfl ?_
                refine zs_getz (r := 1050) (pc := 73) C dX9_times_73 w_X9_357 f_10_50 rfl (r_1050 0) (fun v73 e73 l73 u73 => ?_)
                try simp only [zuI_1, zuI_2, zuJ_1, zuJ_2, zuJ_3, zuP_1, zuP_2, zuP_3, zuC_1, zuC_2, reduceIte, Nat.reduceEqDiff, false_and, and_false, true_and, and_true, and_self, or_true, true_or, or_false, false_or] at e73
                refine zs_if_eq (tgt := 83) (pc := 76) C dX9_times_76 (by decide) (fun h76 => ?_) (fun h76 => ?_)
                · skip
                  refine zs_lload_n (pc := 83) C dX9_times_83 rfl ?_
                  refine zs_lload_n (pc := 84) C dX9_times_84 rfl ?_
                  refine zs_lmulF (pc := 85) C dX9_times_85 (fun z85 hz851 hz852 => ?_)
                  exact zs_lret (pc := 86) C hr hlk dX9_times_86 ⟨by repeat (first | exact zsm_rf | assumption | refine zsm_C (by decide) ?_ | refine zsm_I (by decide) ?_ | refine zsm_J ?_ | refine zsm_c (by assumption) (by decide) ?_), trivial⟩
                · skip
                  refine zs_lconst (n := 0) (pc := 79) C dX9_times_79 rfl (by decide) ?_
                  refine zs_goto (tgt := 86) (pc := 80) C dX9_times_80 (by decide) ?_
                  exact zs_lret (pc := 86) C hr hlk dX9_times_86 ⟨by repeat (first | exact zsm_rf | assumption | refine zsm_C (by decide) ?_ | refine zsm_I (by decide) ?_ | refine zsm_J ?_ | refine zsm_c (by assumption) (by decide) ?_), trivial⟩
      · skip
        refine zs_lload_n (pc := 18) C dX9_times_18 rfl ?_
        refine zs_lneg (pc := 19) C dX9_times_19 (fun z19 hz191 hz192 hz193 => ?_)
        refine zs_goto (tgt := 24) (pc := 20) C dX9_times_20 (by decide) ?_
        refine zs_ldc2 (n := 1000000000000) (pc := 24) C dX9_times_24 q_X9_360 (by decide) (by decide) ?_
        refine zs_lload_n (pc := 27) C dX9_times_27 rfl ?_
        refine zs_lconst (n := 0) (pc := 28) C dX9_times_28 rfl (by decide) ?_
        refine zs_lcmp (pc := 29) C dX9_times_29 (fun z29 hz29 => ?_)
        refine zs_if_ge (tgt := 38) (pc := 30) C dX9_times_30 (by decide) (fun h30 => ?_) (fun h30 => ?_)
        · skip
          refine zs_lload_n (pc := 38) C dX9_times_38 rfl ?_
          refine zs_ldiv (pc := 39) C dX9_times_39 (by omega) (fun z39 hz391 hz392 => ?_)
          refine zs_lcmp (pc := 40) C dX9_times_40 (fun z40 hz40 => ?_)
          refine zs_if_le (tgt := 48) (pc := 41) C dX9_times_41 (by decide) (fun h41 => ?_) (fun h41 => ?_)
          · skip
            refine zs_iconst (pc := 48) C dX9_times_48 (by decide) ?_
            refine zs_istore (pc := 49) C dX9_times_49 (by decide) ?_
            dsimp only [zset, zclr, znone]
            refine zs_aload_n (pc := 51) C dX9_times_51 rfl ?_
            refine zs_aload_n (pc := 52) C dX9_times_52 rfl ?_
            refine zs_getz (r := 1050) (pc := 53) C dX9_times_53 w_X9_357 f_10_50 rfl (r_1050 0) (fun v53 e53 l53 u53 => ?_)
            refine zs_if_ne (tgt := 64) (pc := 56) C dX9_times_56 (by decide) (fun h56 => ?_) (fun h56 => ?_)
            · skip
              refine zs_iconst (pc := 64) C dX9_times_64 (by decide) ?_
              refine zs_goto (tgt := 69) (pc := 65) C dX9_times_65 (by decide) ?_
              refine zs_putz (r := 1050) (pc := 69) C dX9_times_69 w_X9_357 f_10_50 rfl (r_1050 0) (by omega) (by omega) ?_
              refine zs_aload_n (pc := 72) C dX9_times_72 rfl ?_
              refine zs_getz (r := 1050) (pc := 73) C dX9_times_73 w_X9_357 f_10_50 rfl (r_1050 0) (fun v73 e73 l73 u73 => ?_)
              try simp only [zuI_1, zuI_2, zuJ_1, zuJ_2, zuJ_3, zuP_1, zuP_2, zuP_3, zuC_1, zuC_2, reduceIte, Nat.reduceEqDiff, false_and, and_false, true_and, and_true, and_self, or_true, true_or, or_false, false_or] at e73
              refine zs_if_eq (tgt := 83) (pc := 76) C dX9_times_76 (by decide) (fun h76 => ?_) (fun h76 => ?_)
              · skip
                refine zs_lload_n (pc := 83) C dX9_times_83 rfl ?_
                refine zs_lload_n (pc := 84) C dX9_times_84 rfl ?_
                refine zs_lmulF (pc := 85) C dX9_times_85 (fun z85 hz851 hz852 => ?_)
                exact zs_lret (pc := 86) C hr hlk dX9_times_86 ⟨by repeat (first | exact zsm_rf | assumption | refine zsm_C (by decide) ?_ | refine zsm_I (by decide) ?_ | refine zsm_J ?_ | refine zsm_c (by assumption) (by decide) ?_), trivial⟩
              · skip
                refine zs_lconst (n := 0) (pc := 79) C dX9_times_79 rfl (by decide) ?_
                refine zs_goto (tgt := 86) (pc := 80) C dX9_times_80 (by decide) ?_
                exact zs_lret (pc := 86) C hr hlk dX9_times_86 ⟨by repeat (first | exact zsm_rf | assumption | refine zsm_C (by decide) ?_ | refine zsm_I (by decide) ?_ | refine zsm_J ?_ | refine zsm_c (by assumption) (by decide) ?_), trivial⟩
            · skip
              refine zs_iload (pc := 59) C dX9_times_59 rfl ?_
              refine zs_if_eq (tgt := 68) (pc := 61) C dX9_times_61 (by decide) (fun h61 => ?_) (fun h61 => ?_)
              · skip
                refine zs_iconst (pc := 68) C dX9_times_68 (by decide) ?_
                refine zs_putz (r := 1050) (pc := 69) C dX9_times_69 w_X9_357 f_10_50 rfl (r_1050 0) (by omega) (by omega) ?_
                refine zs_aload_n (pc := 72) C dX9_times_72 rfl ?_
                refine zs_getz (r := 1050) (pc := 73) C dX9_times_73 w_X9_357 f_10_50 rfl (r_1050 0) (fun v73 e73 l73 u73 => ?_)
                try simp only [zuI_1, zuI_2, zuJ_1, zuJ_2, zuJ_3, zuP_1, zuP_2, zuP_3, zuC_1, zuC_2, reduceIte, Nat.reduceEqDiff, false_and, and_false, true_and, and_true, and_self, or_true, true_or, or_false, false_or] at e73
                refine zs_if_eq (tgt := 83) (pc := 76) C dX9_times_76 (by decide) (fun h76 => ?_) (fun h76 => ?_)
                · skip
                  refine zs_lload_n (pc := 83) C dX9_times_83 rfl ?_
                  refine zs_lload_n (pc := 84) C dX9_times_84 rfl ?_
                  refine zs_lmulF (pc := 85) C dX9_times_85 (fun z85 hz851 hz852 => ?_)
                  exact zs_lret (pc := 86) C hr hlk dX9_times_86 ⟨by repeat (first | exact zsm_rf | assumption | refine zsm_C (by decide) ?_ | refine zsm_I (by decide) ?_ | refine zsm_J ?_ | refine zsm_c (by assumption) (by decide) ?_), trivial⟩
                · skip
                  refine zs_lconst (n := 0) (pc := 79) C dX9_times_79 rfl (by decide) ?_
                  refine zs_goto (tgt := 86) (pc := 80) C dX9_times_80 (by decide) ?_
                  exact zs_lret (pc := 86) C hr hlk dX9_times_86 ⟨by repeat (first | exact zsm_rf | assumption | refine zsm_C (by decide) ?_ | refine zsm_I (by decide) ?_ | refine zsm_J ?_ | refine zsm_c (by assumption) (by decide) ?_), trivial⟩
              · skip
                refine zs_iconst (pc := 64) C dX9_times_64 (by decide) ?_
                refine zs_goto (tgt := 69) (pc := 65) C dX9_times_65 (by decide) ?_
                refine zs_putz (r := 1050) (pc := 69) C dX9_times_69 w_X9_357 f_10_50 rfl (r_1050 0) (by omega) (by omega) ?_
                refine zs_aload_n (pc := 72) C dX9_times_72 rfl ?_
                refine zs_getz (r := 1050) (pc := 73) C dX9_times_73 w_X9_357 f_10_50 rfl (r_1050 0) (fun v73 e73 l73 u73 => ?_)
                try simp only [zuI_1, zuI_2, zuJ_1, zuJ_2, zuJ_3, zuP_1, zuP_2, zuP_3, zuC_1, zuC_2, reduceIte, Nat.reduceEqDiff, false_and, and_false, true_and, and_true, and_self, or_true, true_or, or_false, false_or] at e73
                refine zs_if_eq (tgt := 83) (pc := 76) C dX9_times_76 (by decide) (fun h76 => ?_) (fun h76 => ?_)
                · skip
                  refine zs_lload_n (pc := 83) C dX9_times_83 rfl ?_
                  refine zs_lload_n (pc := 84) C dX9_times_84 rfl ?_
                  refine zs_lmulF (pc := 85) C dX9_times_85 (fun z85 hz851 hz852 => ?_)
                  exact zs_lret (pc := 86) C hr hlk dX9_times_86 ⟨by repeat (first | exact zsm_rf | assumption | refine zsm_C (by decide) ?_ | refine zsm_I (by decide) ?_ | refine zsm_J ?_ | refine zsm_c (by assumption) (by decide) ?_), trivial⟩
                · skip
                  refine zs_lconst (n := 0) (pc := 79) C dX9_times_79 rfl (by decide) ?_
                  refine zs_goto (tgt := 86) (pc := 80) C dX9_times_80 (by decide) ?_
                  exact zs_lret (pc := 86) C hr hlk dX9_times_86 ⟨by repeat (first | exact zsm_rf | assumption | refine zsm_C (by decide) ?_ | refine zsm_I (by decide) ?_ | refine zsm_J ?_ | refine zsm_c (by assumption) (by decide) ?_), trivial⟩
          · skip
            refine zs_iconst (pc := 44) C dX9_times_44 (by decide) ?_
            refine zs_goto (tgt := 49) (pc := 45) C dX9_times_45 (by decide) ?_
            refine zs_istore (pc := 49) C dX9_times_49 (by decide) ?_
            dsimp only [zset, zclr, znone]
            refine zs_aload_n (pc := 51) C dX9_times_51 rfl ?_
            refine zs_aload_n (pc := 52) C dX9_times_52 rfl ?_
            refine zs_getz (r := 1050) (pc := 53) C dX9_times_53 w_X9_357 f_10_50 rfl (r_1050 0) (fun v53 e53 l53 u53 => ?_)
            refine zs_if_ne (tgt := 64) (pc := 56) C dX9_times_56 (by decide) (fun h56 => ?_) (fun h56 => ?_)
            · skip
              refine zs_iconst (pc := 64) C dX9_times_64 (by decide) ?_
              refine zs_goto (tgt := 69) (pc := 65) C dX9_times_65 (by decide) ?_
              refine zs_putz (r := 1050) (pc := 69) C dX9_times_69 w_X9_357 f_10_50 rfl (r_1050 0) (by omega) (by omega) ?_
              refine zs_aload_n (pc := 72) C dX9_times_72 rfl ?_
              refine zs_getz (r := 1050) (pc := 73) C dX9_times_73 w_X9_357 f_10_50 rfl (r_1050 0) (fun v73 e73 l73 u73 => ?_)
              try simp only [zuI_1, zuI_2, zuJ_1, zuJ_2, zuJ_3, zuP_1, zuP_2, zuP_3, zuC_1, zuC_2, reduceIte, Nat.reduceEqDiff, false_and, and_false, true_and, and_true, and_self, or_true, true_or, or_false, false_or] at e73
              refine zs_if_eq (tgt := 83) (pc := 76) C dX9_times_76 (by decide) (fun h76 => ?_) (fun h76 => ?_)
              · skip
                refine zs_lload_n (pc := 83) C dX9_times_83 rfl ?_
                refine zs_lload_n (pc := 84) C dX9_times_84 rfl ?_
                refine zs_lmulF (pc := 85) C dX9_times_85 (fun z85 hz851 hz852 => ?_)
                exact zs_lret (pc := 86) C hr hlk dX9_times_86 ⟨by repeat (first | exact zsm_rf | assumption | refine zsm_C (by decide) ?_ | refine zsm_I (by decide) ?_ | refine zsm_J ?_ | refine zsm_c (by assumption) (by decide) ?_), trivial⟩
              · skip
                refine zs_lconst (n := 0) (pc := 79) C dX9_times_79 rfl (by decide) ?_
                refine zs_goto (tgt := 86) (pc := 80) C dX9_times_80 (by decide) ?_
                exact zs_lret (pc := 86) C hr hlk dX9_times_86 ⟨by repeat (first | exact zsm_rf | assumption | refine zsm_C (by decide) ?_ | refine zsm_I (by decide) ?_ | refine zsm_J ?_ | refine zsm_c (by assumption) (by decide) ?_), trivial⟩
            · skip
              refine zs_iload (pc := 59) C dX9_times_59 rfl ?_
              refine zs_if_eq (tgt := 68) (pc := 61) C dX9_times_61 (by decide) (fun h61 => ?_) (fun h61 => ?_)
              · skip
                refine zs_iconst (pc := 68) C dX9_times_68 (by decide) ?_
                refine zs_putz (r := 1050) (pc := 69) C dX9_times_69 w_X9_357 f_10_50 rfl (r_1050 0) (by omega) (by omega) ?_
                refine zs_aload_n (pc := 72) C dX9_times_72 rfl ?_
                refine zs_getz (r := 1050) (pc := 73) C dX9_times_73 w_X9_357 f_10_50 rfl (r_1050 0) (fun v73 e73 l73 u73 => ?_)
                try simp only [zuI_1, zuI_2, zuJ_1, zuJ_2, zuJ_3, zuP_1, zuP_2, zuP_3, zuC_1, zuC_2, reduceIte, Nat.reduceEqDiff, false_and, and_false, true_and, and_true, and_self, or_true, true_or, or_false, false_or] at e73
                refine zs_if_eq (tgt := 83) (pc := 76) C dX9_times_76 (by decide) (fun h76 => ?_) (fun h76 => ?_)
                · skip
                  refine zs_lload_n (pc := 83) C dX9_times_83 rfl ?_
                  refine zs_lload_n (pc := 84) C dX9_times_84 rfl ?_
                  refine zs_lmulF (pc := 85) C dX9_times_85 (fun z85 hz851 hz852 => ?_)
                  exact zs_lret (pc := 86) C hr hlk dX9_times_86 ⟨by repeat (first | exact zsm_rf | assumption | refine zsm_C (by decide) ?_ | refine zsm_I (by decide) ?_ | refine zsm_J ?_ | refine zsm_c (by assumption) (by decide) ?_), trivial⟩
                · skip
                  refine zs_lconst (n := 0) (pc := 79) C dX9_times_79 rfl (by decide) ?_
                  refine zs_goto (tgt := 86) (pc := 80) C dX9_times_80 (by decide) ?_
                  exact zs_lret (pc := 86) C hr hlk dX9_times_86 ⟨by repeat (first | exact zsm_rf | assumption | refine zsm_C (by decide) ?_ | refine zsm_I (by decide) ?_ | refine zsm_J ?_ | refine zsm_c (by assumption) (by decide) ?_), trivial⟩
              · skip
                refine zs_iconst (pc := 64) C dX9_times_64 (by decide) ?_
                refine zs_goto (tgt := 69) (pc := 65) C dX9_times_65 (by decide) ?_
                refine zs_putz (r := 1050) (pc := 69) C dX9_times_69 w_X9_357 f_10_50 rfl (r_1050 0) (by omega) (by omega) ?_
                refine zs_aload_n (pc := 72) C dX9_times_72 rfl ?_
                refine zs_getz (r := 1050) (pc := 73) C dX9_times_73 w_X9_357 f_10_50 rfl (r_1050 0) (fun v73 e73 l73 u73 => ?_)
                try simp only [zuI_1, zuI_2, zuJ_1, zuJ_2, zuJ_3, zuP_1, zuP_2, zuP_3, zuC_1, zuC_2, reduceIte, Nat.reduceEqDiff, false_and, and_false, true_and, and_true, and_self, or_true, true_or, or_false, false_or] at e73
                refine zs_if_eq (tgt := 83) (pc := 76) C dX9_times_76 (by decide) (fun h76 => ?_) (fun h76 => ?_)
                · skip
                  refine zs_lload_n (pc := 83) C dX9_times_83 rfl ?_
                  refine zs_lload_n (pc := 84) C dX9_times_84 rfl ?_
                  refine zs_lmulF (pc := 85) C dX9_times_85 (fun z85 hz851 hz852 => ?_)
                  exact zs_lret (pc := 86) C hr hlk dX9_times_86 ⟨by repeat (first | exact zsm_rf | assumption | refine zsm_C (by decide) ?_ | refine zsm_I (by decide) ?_ | refine zsm_J ?_ | refine zsm_c (by assumption) (by decide) ?_), trivial⟩
                · skip
                  refine zs_lconst (n := 0) (pc := 79) C dX9_times_79 rfl (by decide) ?_
                  refine zs_goto (tgt := 86) (pc := 80) C dX9_times_80 (by decide) ?_
                  exact zs_lret (pc := 86) C hr hlk dX9_times_86 ⟨by repeat (first | exact zsm_rf | assumption | refine zsm_C (by decide) ?_ | refine zsm_I (by decide) ?_ | refine zsm_J ?_ | refine zsm_c (by assumption) (by decide) ?_), trivial⟩
        · skip
          refine zs_lload_n (pc := 33) C dX9_times_33 rfl ?_
          refine zs_lneg (pc := 34) C dX9_times_34 (fun z34 hz341 hz342 hz343 => ?_)
          refine zs_goto (tgt := 39) (pc := 35) C dX9_times_35 (by decide) ?_
          refine zs_ldiv (pc := 39) C dX9_times_39 (by omega) (fun z39 hz391 hz392 => ?_)
          refine zs_lcmp (pc := 40) C dX9_times_40 (fun z40 hz40 => ?_)
          refine zs_if_le (tgt := 48) (pc := 41) C dX9_times_41 (by decide) (fun h41 => ?_) (fun h41 => ?_)
          · skip
            refine zs_iconst (pc := 48) C dX9_times_48 (by decide) ?_
            refine zs_istore (pc := 49) C dX9_times_49 (by decide) ?_
            dsimp only [zset, zclr, znone]
            refine zs_aload_n (pc := 51) C dX9_times_51 rfl ?_
            refine zs_aload_n (pc := 52) C dX9_times_52 rfl ?_
            refine zs_getz (r := 1050) (pc := 53) C dX9_times_53 w_X9_357 f_10_50 rfl (r_1050 0) (fun v53 e53 l53 u53 => ?_)
            refine zs_if_ne (tgt := 64) (pc := 56) C dX9_times_56 (by decide) (fun h56 => ?_) (fun h56 => ?_)
            · skip
              refine zs_iconst (pc := 64) C dX9_times_64 (by decide) ?_
              refine zs_goto (tgt := 69) (pc := 65) C dX9_times_65 (by decide) ?_
              refine zs_putz (r := 1050) (pc := 69) C dX9_times_69 w_X9_357 f_10_50 rfl (r_1050 0) (by omega) (by omega) ?_
              refine zs_aload_n (pc := 72) C dX9_times_72 rfl ?_
              refine zs_getz (r := 1050) (pc := 73) C dX9_times_73 w_X9_357 f_10_50 rfl (r_1050 0) (fun v73 e73 l73 u73 => ?_)
              try simp only [zuI_1, zuI_2, zuJ_1, zuJ_2, zuJ_3, zuP_1, zuP_2, zuP_3, zuC_1, zuC_2, reduceIte, Nat.reduceEqDiff, false_and, and_false, true_and, and_true, and_self, or_true, true_or, or_false, false_or] at e73
              refine zs_if_eq (tgt := 83) (pc := 76) C dX9_times_76 (by decide) (fun h76 => ?_) (fun h76 => ?_)
              · skip
                refine zs_lload_n (pc := 83) C dX9_times_83 rfl ?_
                refine zs_lload_n (pc := 84) C dX9_times_84 rfl ?_
                refine zs_lmulF (pc := 85) C dX9_times_85 (fun z85 hz851 hz852 => ?_)
                exact zs_lret (pc := 86) C hr hlk dX9_times_86 ⟨by repeat (first | exact zsm_rf | assumption | refine zsm_C (by decide) ?_ | refine zsm_I (by decide) ?_ | refine zsm_J ?_ | refine zsm_c (by assumption) (by decide) ?_), trivial⟩
              · skip
                refine zs_lconst (n := 0) (pc := 79) C dX9_times_79 rfl (by decide) ?_
                refine zs_goto (tgt := 86) (pc := 80) C dX9_times_80 (by decide) ?_
                exact zs_lret (pc := 86) C hr hlk dX9_times_86 ⟨by repeat (first | exact zsm_rf | assumption | refine zsm_C (by decide) ?_ | refine zsm_I (by decide) ?_ | refine zsm_J ?_ | refine zsm_c (by assumption) (by decide) ?_), trivial⟩
            · skip
              refine zs_iload (pc := 59) C dX9_times_59 rfl ?_
              refine zs_if_eq (tgt := 68) (pc := 61) C dX9_times_61 (by decide) (fun h61 => ?_) (fun h61 => ?_)
              · skip
                refine zs_iconst (pc := 68) C dX9_times_68 (by decide) ?_
                refine zs_putz (r := 1050) (pc := 69) C dX9_times_69 w_X9_357 f_10_50 rfl (r_1050 0) (by omega) (by omega) ?_
                refine zs_aload_n (pc := 72) C dX9_times_72 rfl ?_
                refine zs_getz (r := 1050) (pc := 73) C dX9_times_73 w_X9_357 f_10_50 rfl (r_1050 0) (fun v73 e73 l73 u73 => ?_)
                try simp only [zuI_1, zuI_2, zuJ_1, zuJ_2, zuJ_3, zuP_1, zuP_2, zuP_3, zuC_1, zuC_2, reduceIte, Nat.reduceEqDiff, false_and, and_false, true_and, and_true, and_self, or_true, true_or, or_false, false_or] at e73
                refine zs_if_eq (tgt := 83) (pc := 76) C dX9_times_76 (by decide) (fun h76 => ?_) (fun h76 => ?_)
                · skip
                  refine zs_lload_n (pc := 83) C dX9_times_83 rfl ?_
                  refine zs_lload_n (pc := 84) C dX9_times_84 rfl ?_
                  refine zs_lmulF (pc := 85) C dX9_times_85 (fun z85 hz851 hz852 => ?_)
                  exact zs_lret (pc := 86) C hr hlk dX9_times_86 ⟨by repeat (first | exact zsm_rf | assumption | refine zsm_C (by decide) ?_ | refine zsm_I (by decide) ?_ | refine zsm_J ?_ | refine zsm_c (by assumption) (by decide) ?_), trivial⟩
                · skip
                  refine zs_lconst (n := 0) (pc := 79) C dX9_times_79 rfl (by decide) ?_
                  refine zs_goto (tgt := 86) (pc := 80) C dX9_times_80 (by decide) ?_
                  exact zs_lret (pc := 86) C hr hlk dX9_times_86 ⟨by repeat (first | exact zsm_rf | assumption | refine zsm_C (by decide) ?_ | refine zsm_I (by decide) ?_ | refine zsm_J ?_ | refine zsm_c (by assumption) (by decide) ?_), trivial⟩
              · skip
                refine zs_iconst (pc := 64) C dX9_times_64 (by decide) ?_
                refine zs_goto (tgt := 69) (pc := 65) C dX9_times_65 (by decide) ?_
                refine zs_putz (r := 1050) (pc := 69) C dX9_times_69 w_X9_357 f_10_50 rfl (r_1050 0) (by omega) (by omega) ?_
                refine zs_aload_n (pc := 72) C dX9_times_72 rfl ?_
                refine zs_getz (r := 1050) (pc := 73) C dX9_times_73 w_X9_357 f_10_50 rfl (r_1050 0) (fun v73 e73 l73 u73 => ?_)
                try simp only [zuI_1, zuI_2, zuJ_1, zuJ_2, zuJ_3, zuP_1, zuP_2, zuP_3, zuC_1, zuC_2, reduceIte, Nat.reduceEqDiff, false_and, and_false, true_and, and_true, and_self, or_true, true_or, or_false, false_or] at e73
                refine zs_if_eq (tgt := 83) (pc := 76) C dX9_times_76 (by decide) (fun h76 => ?_) (fun h76 => ?_)
                · skip
                  refine zs_lload_n (pc := 83) C dX9_times_83 rfl ?_
                  refine zs_lload_n (pc := 84) C dX9_times_84 rfl ?_
                  refine zs_lmulF (pc := 85) C dX9_times_85 (fun z85 hz851 hz852 => ?_)
                  exact zs_lret (pc := 86) C hr hlk dX9_times_86 ⟨by repeat (first | exact zsm_rf | assumption | refine zsm_C (by decide) ?_ | refine zsm_I (by decide) ?_ | refine zsm_J ?_ | refine zsm_c (by assumption) (by decide) ?_), trivial⟩
                · skip
                  refine zs_lconst (n := 0) (pc := 79) C dX9_times_79 rfl (by decide) ?_
                  refine zs_goto (tgt := 86) (pc := 80) C dX9_times_80 (by decide) ?_
                  exact zs_lret (pc := 86) C hr hlk dX9_times_86 ⟨by repeat (first | exact zsm_rf | assumption | refine zsm_C (by decide) ?_ | refine zsm_I (by decide) ?_ | refine zsm_J ?_ | refine zsm_c (by assumption) (by decide) ?_), trivial⟩
          · skip
            refine zs_iconst (pc := 44) C dX9_times_44 (by decide) ?_
            refine zs_goto (tgt := 49) (pc := 45) C dX9_times_45 (by decide) ?_
            refine zs_istore (pc := 49) C dX9_times_49 (by decide) ?_
            dsimp only [zset, zclr, znone]
            refine zs_aload_n (pc := 51) C dX9_times_51 rfl ?_
            refine zs_aload_n (pc := 52) C dX9_times_52 rfl ?_
            refine zs_getz (r := 1050) (pc := 53) C dX9_times_53 w_X9_357 f_10_50 rfl (r_1050 0) (fun v53 e53 l53 u53 => ?_)
            refine zs_if_ne (tgt := 64) (pc := 56) C dX9_times_56 (by decide) (fun h56 => ?_) (fun h56 => ?_)
            · skip
              refine zs_iconst (pc := 64) C dX9_times_64 (by decide) ?_
              refine zs_goto (tgt := 69) (pc := 65) C dX9_times_65 (by decide) ?_
              refine zs_putz (r := 1050) (pc := 69) C dX9_times_69 w_X9_357 f_10_50 rfl (r_1050 0) (by omega) (by omega) ?_
              refine zs_aload_n (pc := 72) C dX9_times_72 rfl ?_
              refine zs_getz (r := 1050) (pc := 73) C dX9_times_73 w_X9_357 f_10_50 rfl (r_1050 0) (fun v73 e73 l73 u73 => ?_)
              try simp only [zuI_1, zuI_2, zuJ_1, zuJ_2, zuJ_3, zuP_1, zuP_2, zuP_3, zuC_1, zuC_2, reduceIte, Nat.reduceEqDiff, false_and, and_false, true_and, and_true, and_self, or_true, true_or, or_false, false_or] at e73
              refine zs_if_eq (tgt := 83) (pc := 76) C dX9_times_76 (by decide) (fun h76 => ?_) (fun h76 => ?_)
              · skip
                refine zs_lload_n (pc := 83) C dX9_times_83 rfl ?_
                refine zs_lload_n (pc := 84) C dX9_times_84 rfl ?_
                refine zs_lmulF (pc := 85) C dX9_times_85 (fun z85 hz851 hz852 => ?_)
                exact zs_lret (pc := 86) C hr hlk dX9_times_86 ⟨by repeat (first | exact zsm_rf | assumption | refine zsm_C (by decide) ?_ | refine zsm_I (by decide) ?_ | refine zsm_J ?_ | refine zsm_c (by assumption) (by decide) ?_), trivial⟩
              · skip
                refine zs_lconst (n := 0) (pc := 79) C dX9_times_79 rfl (by decide) ?_
                refine zs_goto (tgt := 86) (pc := 80) C dX9_times_80 (by decide) ?_
                exact zs_lret (pc := 86) C hr hlk dX9_times_86 ⟨by repeat (first | exact zsm_rf | assumption | refine zsm_C (by decide) ?_ | refine zsm_I (by decide) ?_ | refine zsm_J ?_ | refine zsm_c (by assumption) (by decide) ?_), trivial⟩
            · skip
              refine zs_iload (pc := 59) C dX9_times_59 rfl ?_
              refine zs_if_eq (tgt := 68) (pc := 61) C dX9_times_61 (by decide) (fun h61 => ?_) (fun h61 => ?_)
              · skip
                refine zs_iconst (pc := 68) C dX9_times_68 (by decide) ?_
                refine zs_putz (r := 1050) (pc := 69) C dX9_times_69 w_X9_357 f_10_50 rfl (r_1050 0) (by omega) (by omega) ?_
                refine zs_aload_n (pc := 72) C dX9_times_72 rfl ?_
                refine zs_getz (r := 1050) (pc := 73) C dX9_times_73 w_X9_357 f_10_50 rfl (r_1050 0) (fun v73 e73 l73 u73 => ?_)
                try simp only [zuI_1, zuI_2, zuJ_1, zuJ_2, zuJ_3, zuP_1, zuP_2, zuP_3, zuC_1, zuC_2, reduceIte, Nat.reduceEqDiff, false_and, and_false, true_and, and_true, and_self, or_true, true_or, or_false, false_or] at e73
                refine zs_if_eq (tgt := 83) (pc := 76) C dX9_times_76 (by decide) (fun h76 => ?_) (fun h76 => ?_)
                · skip
                  refine zs_lload_n (pc := 83) C dX9_times_83 rfl ?_
                  refine zs_lload_n (pc := 84) C dX9_times_84 rfl ?_
                  refine zs_lmulF (pc := 85) C dX9_times_85 (fun z85 hz851 hz852 => ?_)
                  exact zs_lret (pc := 86) C hr hlk dX9_times_86 ⟨by repeat (first | exact zsm_rf | assumption | refine zsm_C (by decide) ?_ | refine zsm_I (by decide) ?_ | refine zsm_J ?_ | refine zsm_c (by assumption) (by decide) ?_), trivial⟩
                · skip
                  refine zs_lconst (n := 0) (pc := 79) C dX9_times_79 rfl (by decide) ?_
                  refine zs_goto (tgt := 86) (pc := 80) C dX9_times_80 (by decide) ?_
                  exact zs_lret (pc := 86) C hr hlk dX9_times_86 ⟨by repeat (first | exact zsm_rf | assumption | refine zsm_C (by decide) ?_ | refine zsm_I (by decide) ?_ | refine zsm_J ?_ | refine zsm_c (by assumption) (by decide) ?_), trivial⟩
              · skip
                refine zs_iconst (pc := 64) C dX9_times_64 (by decide) ?_
                refine zs_goto (tgt := 69) (pc := 65) C dX9_times_65 (by decide) ?_
                refine zs_putz (r := 1050) (pc := 69) C dX9_times_69 w_X9_357 f_10_50 rfl (r_1050 0) (by omega) (by omega) ?_
                refine zs_aload_n (pc := 72) C dX9_times_72 rfl ?_
                refine zs_getz (r := 1050) (pc := 73) C dX9_times_73 w_X9_357 f_10_50 rfl (r_1050 0) (fun v73 e73 l73 u73 => ?_)
                try simp only [zuI_1, zuI_2, zuJ_1, zuJ_2, zuJ_3, zuP_1, zuP_2, zuP_3, zuC_1, zuC_2, reduceIte, Nat.reduceEqDiff, false_and, and_false, true_and, and_true, and_self, or_true, true_or, or_false, false_or] at e73
                refine zs_if_eq (tgt := 83) (pc := 76) C dX9_times_76 (by decide) (fun h76 => ?_) (fun h76 => ?_)
                · skip
                  refine zs_lload_n (pc := 83) C dX9_times_83 rfl ?_
                  refine zs_lload_n (pc := 84) C dX9_times_84 rfl ?_
                  refine zs_lmulF (pc := 85) C dX9_times_85 (fun z85 hz851 hz852 => ?_)
                  exact zs_lret (pc := 86) C hr hlk dX9_times_86 ⟨by repeat (first | exact zsm_rf | assumption | refine zsm_C (by decide) ?_ | refine zsm_I (by decide) ?_ | refine zsm_J ?_ | refine zsm_c (by assumption) (by decide) ?_), trivial⟩
                · skip
                  refine zs_lconst (n := 0) (pc := 79) C dX9_times_79 rfl (by decide) ?_
                  refine zs_goto (tgt := 86) (pc := 80) C dX9_times_80 (by decide) ?_
                  exact zs_lret (pc := 86) C hr hlk dX9_times_86 ⟨by repeat (first | exact zsm_rf | assumption | refine zsm_C (by decide) ?_ | refine zsm_I (by decide) ?_ | refine zsm_J ?_ | refine zsm_c (by assumption) (by decide) ?_), trivial⟩

set_option maxHeartbeats 4000000 in
set_option maxRecDepth 100000 in
theorem c_X9_valueOf {l : Launch} {Γ : zΓ} {G : zH} {w : Nat} {k : Int} (hX : zXs Γ) (hM : MI Γ w G)(hk : 0 ≤ k ∧ k < 64) : zMet l Γ yX9_valueOf cX9_valueOf 6 (some .long) 1 [zr 10 w, zi k] G (zpj (fun x G' => zsm [1050] G G' ∧ True)) := by
  have hK := MI_k hM k (by omega) (by omega)
  refine zMet_of RX9 hX (by decide) rfl (Nat.le_of_ble_eq_true rfl) ?_
  intro p e s m args below meth c C hr hlk
  show Z p l e (zrm 1) s m args below meth c Γ 6 0 0 (MQ below (zQc Γ (zpj (fun x G' => zsm [1050] G G' ∧ True))) args s 0 0 (zA Γ)) 0 [some (zr 10 w), some (zi k), none, none, none, none] [] G
  refine zs_loc 1 rfl (fun ha1 hb1 => ?_)
  refine zs_aload_n (pc := 0) C dX9_valueOf_0 rfl ?_
  refine zs_getf (pc := 1) C dX9_valueOf_1 w_X9_66 f_10_37 (by decide) ?_
  refine zs_iload_n (pc := 4) C dX9_valueOf_4 rfl ?_
  refine zs_iald (r := 2074) (pc := 5) C dX9_valueOf_5 a_74 (by decide) (by omega) rfl (r_2074 _) (fun v5 e5 l5 u5 => ?_)
  refine zs_if_ne (tgt := 17) (pc := 6) C dX9_valueOf_6 (by decide) (fun h6 => ?_) (fun h6 => ?_)
  · skip
    refine zs_aload_n (pc := 17) C dX9_valueOf_17 rfl ?_
    refine zs_getf (pc := 18) C dX9_valueOf_18 w_X9_66 f_10_37 (by decide) ?_
    refine zs_iload_n (pc := 21) C dX9_valueOf_21 rfl ?_
    refine zs_iald (r := 2074) (pc := 22) C dX9_valueOf_22 a_74 (by decide) (by omega) rfl (r_2074 _) (fun v22 e22 l22 u22 => ?_)
    refine zs_iconst (pc := 23) C dX9_valueOf_23 (by decide) ?_
    refine zs_icmp_ne (tgt := 39) (pc := 24) C dX9_valueOf_24 (by decide) (fun h24 => ?_) (fun h24 => ?_)
    · skip
      refine zs_aload_n (pc := 39) C dX9_valueOf_39 rfl ?_
      refine zs_getf (pc := 40) C dX9_valueOf_40 w_X9_85 f_10_49 (by decide) ?_
      refine zs_aload_n (pc := 43) C dX9_valueOf_43 rfl ?_
      refine zs_getf (pc := 44) C dX9_valueOf_44 w_X9_69 f_10_38 (by decide) ?_
      refine zs_iload_n (pc := 47) C dX9_valueOf_47 rfl ?_
      refine zs_iald (r := 2075) (pc := 48) C dX9_valueOf_48 a_75 (by decide) (by omega) rfl (r_2075 _) (fun v48 e48 l48 u48 => ?_)
      refine zs_lald (r := 2080) (pc := 49) C dX9_valueOf_49 a_80 (by decide) (by omega) rfl (fun v49 e49 l49 u49 => ?_)
      refine zs_lstore_n (pc := 50) C dX9_valueOf_50 (by decide) ?_
      dsimp only [zset, zclr, znone]
      refine zs_aload_n (pc := 51) C dX9_valueOf_51 rfl ?_
      refine zs_getf (pc := 52) C dX9_valueOf_52 w_X9_66 f_10_37 (by decide) ?_
      refine zs_iload_n (pc := 55) C dX9_valueOf_55 rfl ?_
      refine zs_iald (r := 2074) (pc := 56) C dX9_valueOf_56 a_74 (by decide) (by omega) rfl (r_2074 _) (fun v56 e56 l56 u56 => ?_)
      refine zs_iconst (pc := 57) C dX9_valueOf_57 (by decide) ?_
      refine zs_icmp_ne (tgt := 73) (pc := 58) C dX9_valueOf_58 (by decide) (fun h58 => ?_) (fun h58 => ?_)
      · skip
        refine zs_aload_n (pc := 73) C dX9_valueOf_73 rfl ?_
        refine zs_getf (pc := 74) C dX9_valueOf_74 w_X9_85 f_10_49 (by decide) ?_
        refine zs_aload_n (pc := 77) C dX9_valueOf_77 rfl ?_
        refine zs_getf (pc := 78) C dX9_valueOf_78 w_X9_72 f_10_39 (by decide) ?_
        refine zs_iload_n (pc := 81) C dX9_valueOf_81 rfl ?_
        refine zs_iald (r := 2076) (pc := 82) C dX9_valueOf_82 a_76 (by decide) (by omega) rfl (r_2076 _) (fun v82 e82 l82 u82 => ?_)
        refine zs_lald (r := 2080) (pc := 83) C dX9_valueOf_83 a_80 (by decide) (by omega) rfl (fun v83 e83 l83 u83 => ?_)
        refine zs_lstore (pc := 84) C dX9_valueOf_84 (by decide) ?_
        dsimp only [zset, zclr, znone]
        refine zs_aload_n (pc := 86) C dX9_valueOf_86 rfl ?_
        refine zs_getf (pc := 87) C dX9_valueOf_87 w_X9_66 f_10_37 (by decide) ?_
        refine zs_iload_n (pc := 90) C dX9_valueOf_90 rfl ?_
        refine zs_iald (r := 2074) (pc := 91) C dX9_valueOf_91 a_74 (by decide) (by omega) rfl (r_2074 _) (fun v91 e91 l91 u91 => ?_)
        refine zs_name (fun y92 ey92 => ?_)
        rcases (show y92 = 3 ∨ y92 = 4 ∨ y92 = 5 ∨ y92 = 6 ∨ y92 = 7 ∨ y92 = 8 ∨ y92 = 9 ∨ y92 = 10 ∨ y92 = 11 ∨ y92 = 12 ∨ y92 = 13 ∨ y92 = 14 ∨ (y92 < 3 ∨ 14 < y92) by omega) with h92 | h92 | h92 | h92 | h92 | h92 | h92 | h92 | h92 | h92 | h92 | h92 | h92
        · skip
          refine zs_tabIn (pc := 92) (tgt := 156) C 3 dX9_valueOf_92 h92 (by decide) rfl (by decide) ?_
          refine zs_lload_n (pc := 156) C dX9_valueOf_156 rfl ?_
          refine zs_lconst (n := 0) (pc := 157) C dX9_valueOf_157 rfl (by decide) ?_
          refine zs_lcmp (pc := 158) C dX9_valueOf_158 (fun z158 hz158 => ?_)
          refine zs_if_eq (tgt := 173) (pc := 159) C dX9_valueOf_159 (by decide) (fun h159 => ?_) (fun h159 => ?_)
          · skip
            refine zs_lconst (n := 0) (pc := 173) C dX9_valueOf_173 rfl (by decide) ?_
            exact zs_lret (pc := 174) C hr hlk dX9_valueOf_174 ⟨by repeat (first | exact zsm_rf | assumption | refine zsm_C (by decide) ?_ | refine zsm_I (by decide) ?_ | refine zsm_J ?_ | refine zsm_c (by assumption) (by decide) ?_), trivial⟩
          · skip
            refine zs_lload (pc := 162) C dX9_valueOf_162 rfl ?_
            refine zs_lconst (n := 0) (pc := 164) C dX9_valueOf_164 rfl (by decide) ?_
            refine zs_lcmp (pc := 165) C dX9_valueOf_165 (fun z165 hz165 => ?_)
            refine zs_if_eq (tgt := 173) (pc := 166) C dX9_valueOf_166 (by decide) (fun h166 => ?_) (fun h166 => ?_)
            · skip
              refine zs_lconst (n := 0) (pc := 173) C dX9_valueOf_173 rfl (by decide) ?_
              exact zs_lret (pc := 174) C hr hlk dX9_valueOf_174 ⟨by repeat (first | exact zsm_rf | assumption | refine zsm_C (by decide) ?_ | refine zsm_I (by decide) ?_ | refine zsm_J ?_ | refine zsm_c (by assumption) (by decide) ?_), trivial⟩
            · skip
              refine zs_lconst (n := 1) (pc := 169) C dX9_valueOf_169 rfl (by decide) ?_
              refine zs_goto (tgt := 174) (pc := 170) C dX9_valueOf_170 (by decide) ?_
              exact zs_lret (pc := 174) C hr hlk dX9_valueOf_174 ⟨by repeat (first | exact zsm_rf | assumption | refine zsm_C (by decide) ?_ | refine zsm_I (by decide) ?_ | refine zsm_J ?_ | refine zsm_c (by assumption) (by decide) ?_), trivial⟩
        · skip
          refine zs_tabIn (pc := 92) (tgt := 175) C 4 dX9_valueOf_92 h92 (by decide) rfl (by decide) ?_
          refine zs_lload_n (pc := 175) C dX9_valueOf_175 rfl ?_
          refine zs_lconst (n := 0) (pc := 176) C dX9_valueOf_176 rfl (by decide) ?_
          refine zs_lcmp (pc := 177) C dX9_valueOf_177 (fun z177 hz177 => ?_)
          refine zs_if_ne (tgt := 188) (pc := 178) C dX9_valueOf_178 (by decide) (fun h178 => ?_) (fun h178 => ?_)
          · skip
            refine zs_lconst (n := 1) (pc := 188) C dX9_valueOf_188 rfl (by decide) ?_
            refine zs_goto (tgt := 193) (pc := 189) C dX9_valueOf_189 (by decide) ?_
            exact zs_lret (pc := 193) C hr hlk dX9_valueOf_193 ⟨by repeat (first | exact zsm_rf | assumption | refine zsm_C (by decide) ?_ | refine zsm_I (by decide) ?_ | refine zsm_J ?_ | refine zsm_c (by assumption) (by decide) ?_), trivial⟩
          · skip
            refine zs_lload (pc := 181) C dX9_valueOf_181 rfl ?_
            refine zs_lconst (n := 0) (pc := 183) C dX9_valueOf_183 rfl (by decide) ?_
            refine zs_lcmp (pc := 184) C dX9_valueOf_184 (fun z184 hz184 => ?_)
            refine zs_if_eq (tgt := 192) (pc := 185) C dX9_valueOf_185 (by decide) (fun h185 => ?_) (fun h185 => ?_)
            · skip
              refine zs_lconst (n := 0) (pc := 192) C dX9_valueOf_192 rfl (by decide) ?_
              exact zs_lret (pc := 193) C hr hlk dX9_valueOf_193 ⟨by repeat (first | exact zsm_rf | assumption | refine zsm_C (by decide) ?_ | refine zsm_I (by decide) ?_ | refine zsm_J ?_ | refine zsm_c (by assumption) (by decide) ?_), trivial⟩
            · skip
              refine zs_lconst (n := 1) (pc := 188) C dX9_valueOf_188 rfl (by decide) ?_
              refine zs_goto (tgt := 193) (pc := 189) C dX9_valueOf_189 (by decide) ?_
              exact zs_lret (pc := 193) C hr hlk dX9_valueOf_193 ⟨by repeat (first | exact zsm_rf | assumption | refine zsm_C (by decide) ?_ | refine zsm_I (by decide) ?_ | refine zsm_J ?_ | refine zsm_c (by assumption) (by decide) ?_), trivial⟩
        · skip
          refine zs_tabIn (pc := 92) (tgt := 259) C 5 dX9_valueOf_92 h92 (by decide) rfl (by decide) ?_
          refine zs_aload_n (pc := 259) C dX9_valueOf_259 rfl ?_
          refine zs_getf (pc := 260) C dX9_valueOf_260 w_X9_66 f_10_37 (by decide) ?_
          refine zs_iload_n (pc := 263) C dX9_valueOf_263 rfl ?_
          refine zs_iald (r := 2074) (pc := 264) C dX9_valueOf_264 a_74 (by decide) (by omega) rfl (r_2074 _) (fun v264 e264 l264 u264 => ?_)
          refine zs_lload_n (pc := 265) C dX9_valueOf_265 rfl ?_
          refine zs_lload (pc := 266) C dX9_valueOf_266 rfl ?_
          refine zSip3 (pc := 268) C dX9_valueOf_268 s_X9_371 (c_X9_compares hX ) (by decide) ⟨Nat.zero_le _, Nat.zero_le _⟩ (Nat.le_of_ble_eq_true rfl) (fun x268 l268 u268 hp268 => ?_)
          have hq268 := hp268
          refine zs_if_eq (tgt := 278) (pc := 271) C dX9_valueOf_271 (by decide) (fun h271 => ?_) (fun h271 => ?_)
          · skip
            refine zs_lconst (n := 0) (pc := 278) C dX9_valueOf_278 rfl (by decide) ?_
            exact zs_lret (pc := 279) C hr hlk dX9_valueOf_279 ⟨by repeat (first | exact zsm_rf | assumption | refine zsm_C (by decide) ?_ | refine zsm_I (by decide) ?_ | refine zsm_J ?_ | refine zsm_c (by assumption) (by decide) ?_), trivial⟩
          · skip
            refine zs_lconst (n := 1) (pc := 274) C dX9_valueOf_274 rfl (by decide) ?_
            refine zs_goto (tgt := 279) (pc := 275) C dX9_valueOf_275 (by decide) ?_
            exact zs_lret (pc := 279) C hr hlk dX9_valueOf_279 ⟨by repeat (first | exact zsm_rf | assumption | refine zsm_C (by decide) ?_ | refine zsm_I (by decide) ?_ | refine zsm_J ?_ | refine zsm_c (by assumption) (by decide) ?_), trivial⟩
        · skip
          refine zs_tabIn (pc := 92) (tgt := 259) C 6 dX9_valueOf_92 h92 (by decide) rfl (by decide) ?_
          refine zs_aload_n (pc := 259) C dX9_valueOf_259 rfl ?_
          refine zs_getf (pc := 260) C dX9_valueOf_260 w_X9_66 f_10_37 (by decide) ?_
          refine zs_iload_n (pc := 263) C dX9_valueOf_263 rfl ?_
          refine zs_iald (r := 2074) (pc := 264) C dX9_valueOf_264 a_74 (by decide) (by omega) rfl (r_2074 _) (fun v264 e264 l264 u264 => ?_)
          refine zs_lload_n (pc := 265) C dX9_valueOf_265 rfl ?_
          refine zs_lload (pc := 266) C dX9_valueOf_266 rfl ?_
          refine zSip3 (pc := 268) C dX9_valueOf_268 s_X9_371 (c_X9_compares hX ) (by decide) ⟨Nat.zero_le _, Nat.zero_le _⟩ (Nat.le_of_ble_eq_true rfl) (fun x268 l268 u268 hp268 => ?_)
          have hq268 := hp268
          refine zs_if_eq (tgt := 278) (pc := 271) C dX9_valueOf_271 (by decide) (fun h271 => ?_) (fun h271 => ?_)
          · skip
            refine zs_lconst (n := 0) (pc := 278) C dX9_valueOf_278 rfl (by decide) ?_
            exact zs_lret (pc := 279) C hr hlk dX9_valueOf_279 ⟨by repeat (first | exact zsm_rf | assumption | refine zsm_C (by decide) ?_ | refine zsm_I (by decide) ?_ | refine zsm_J ?_ | refine zsm_c (by assumption) (by decide) ?_), trivial⟩
          · skip
            refine zs_lconst (n := 1) (pc := 274) C dX9_valueOf_274 rfl (by decide) ?_
            refine zs_goto (tgt := 279) (pc := 275) C dX9_valueOf_275 (by decide) ?_
            exact zs_lret (pc := 279) C hr hlk dX9_valueOf_279 ⟨by repeat (first | exact zsm_rf | assumption | refine zsm_C (by decide) ?_ | refine zsm_I (by decide) ?_ | refine zsm_J ?_ | refine zsm_c (by assumption) (by decide) ?_), trivial⟩
        · skip
          refine zs_tabIn (pc := 92) (tgt := 259) C 7 dX9_valueOf_92 h92 (by decide) rfl (by decide) ?_
          refine zs_aload_n (pc := 259) C dX9_valueOf_259 rfl ?_
          refine zs_getf (pc := 260) C dX9_valueOf_260 w_X9_66 f_10_37 (by decide) ?_
          refine zs_iload_n (pc := 263) C dX9_valueOf_263 rfl ?_
          refine zs_iald (r := 2074) (pc := 264) C dX9_valueOf_264 a_74 (by decide) (by omega) rfl (r_2074 _) (fun v264 e264 l264 u264 => ?_)
          refine zs_lload_n (pc := 265) C dX9_valueOf_265 rfl ?_
          refine zs_lload (pc := 266) C dX9_valueOf_266 rfl ?_
          refine zSip3 (pc := 268) C dX9_valueOf_268 s_X9_371 (c_X9_compares hX ) (by decide) ⟨Nat.zero_le _, Nat.zero_le _⟩ (Nat.le_of_ble_eq_true rfl) (fun x268 l268 u268 hp268 => ?_)
          have hq268 := hp268
          refine zs_if_eq (tgt := 278) (pc := 271) C dX9_valueOf_271 (by decide) (fun h271 => ?_) (fun h271 => ?_)
          · skip
            refine zs_lconst (n := 0) (pc := 278) C dX9_valueOf_278 rfl (by decide) ?_
            exact zs_lret (pc := 279) C hr hlk dX9_valueOf_279 ⟨by repeat (first | exact zsm_rf | assumption | refine zsm_C (by decide) ?_ | refine zsm_I (by decide) ?_ | refine zsm_J ?_ | refine zsm_c (by assumption) (by decide) ?_), trivial⟩
          · skip
            refine zs_lconst (n := 1) (pc := 274) C dX9_valueOf_274 rfl (by decide) ?_
            refine zs_goto (tgt := 279) (pc := 275) C dX9_valueOf_275 (by decide) ?_
            exact zs_lret (pc := 279) C hr hlk dX9_valueOf_279 ⟨by repeat (first | exact zsm_rf | assumption | refine zsm_C (by decide) ?_ | refine zsm_I (by decide) ?_ | refine zsm_J ?_ | refine zsm_c (by assumption) (by decide) ?_), trivial⟩
        · skip
          refine zs_tabIn (pc := 92) (tgt := 259) C 8 dX9_valueOf_92 h92 (by decide) rfl (by decide) ?_
          refine zs_aload_n (pc := 259) C dX9_valueOf_259 rfl ?_
          refine zs_getf (pc := 260) C dX9_valueOf_260 w_X9_66 f_10_37 (by decide) ?_
          refine zs_iload_n (pc := 263) C dX9_valueOf_263 rfl ?_
          refine zs_iald (r := 2074) (pc := 264) C dX9_valueOf_264 a_74 (by decide) (by omega) rfl (r_2074 _) (fun v264 e264 l264 u264 => ?_)
          refine zs_lload_n (pc := 265) C dX9_valueOf_265 rfl ?_
          refine zs_lload (pc := 266) C dX9_valueOf_266 rfl ?_
          refine zSip3 (pc := 268) C dX9_valueOf_268 s_X9_371 (c_X9_compares hX ) (by decide) ⟨Nat.zero_le _, Nat.zero_le _⟩ (Nat.le_of_ble_eq_true rfl) (fun x268 l268 u268 hp268 => ?_)
          have hq268 := hp268
          refine zs_if_eq (tgt := 278) (pc := 271) C dX9_valueOf_271 (by decide) (fun h271 => ?_) (fun h271 => ?_)
          · skip
            refine zs_lconst (n := 0) (pc := 278) C dX9_valueOf_278 rfl (by decide) ?_
            exact zs_lret (pc := 279) C hr hlk dX9_valueOf_279 ⟨by repeat (first | exact zsm_rf | assumption | refine zsm_C (by decide) ?_ | refine zsm_I (by decide) ?_ | refine zsm_J ?_ | refine zsm_c (by assumption) (by decide) ?_), trivial⟩
          · skip
            refine zs_lconst (n := 1) (pc := 274) C dX9_valueOf_274 rfl (by decide) ?_
            refine zs_goto (tgt := 279) (pc := 275) C dX9_valueOf_275 (by decide) ?_
            exact zs_lret (pc := 279) C hr hlk dX9_valueOf_279 ⟨by repeat (first | exact zsm_rf | assumption | refine zsm_C (by decide) ?_ | refine zsm_I (by decide) ?_ | refine zsm_J ?_ | refine zsm_c (by assumption) (by decide) ?_), trivial⟩
        · skip
          refine zs_tabIn (pc := 92) (tgt := 259) C 9 dX9_valueOf_92 h92 (by decide) rfl (by decide) ?_
          refine zs_aload_n (pc := 259) C dX9_valueOf_259 rfl ?_
          refine zs_getf (pc := 260) C dX9_valueOf_260 w_X9_66 f_10_37 (by decide) ?_
          refine zs_iload_n (pc := 263) C dX9_valueOf_263 rfl ?_
          refine zs_iald (r := 2074) (pc := 264) C dX9_valueOf_264 a_74 (by decide) (by omega) rfl (r_2074 _) (fun v264 e264 l264 u264 => ?_)
          refine zs_lload_n (pc := 265) C dX9_valueOf_265 rfl ?_
          refine zs_lload (pc := 266) C dX9_valueOf_266 rfl ?_
          refine zSip3 (pc := 268) C dX9_valueOf_268 s_X9_371 (c_X9_compares hX ) (by decide) ⟨Nat.zero_le _, Nat.zero_le _⟩ (Nat.le_of_ble_eq_true rfl) (fun x268 l268 u268 hp268 => ?_)
          have hq268 := hp268
          refine zs_if_eq (tgt := 278) (pc := 271) C dX9_valueOf_271 (by decide) (fun h271 => ?_) (fun h271 => ?_)
          · skip
            refine zs_lconst (n := 0) (pc := 278) C dX9_valueOf_278 rfl (by decide) ?_
            exact zs_lret (pc := 279) C hr hlk dX9_valueOf_279 ⟨by repeat (first | exact zsm_rf | assumption | refine zsm_C (by decide) ?_ | refine zsm_I (by decide) ?_ | refine zsm_J ?_ | refine zsm_c (by assumption) (by decide) ?_), trivial⟩
          · skip
            refine zs_lconst (n := 1) (pc := 274) C dX9_valueOf_274 rfl (by decide) ?_
            refine zs_goto (tgt := 279) (pc := 275) C dX9_valueOf_275 (by decide) ?_
            exact zs_lret (pc := 279) C hr hlk dX9_valueOf_279 ⟨by repeat (first | exact zsm_rf | assumption | refine zsm_C (by decide) ?_ | refine zsm_I (by decide) ?_ | refine zsm_J ?_ | refine zsm_c (by assumption) (by decide) ?_), trivial⟩
        · skip
          refine zs_tabIn (pc := 92) (tgt := 259) C 10 dX9_valueOf_92 h92 (by decide) rfl (by decide) ?_
          refine zs_aload_n (pc := 259) C dX9_valueOf_259 rfl ?_
          refine zs_getf (pc := 260) C dX9_valueOf_260 w_X9_66 f_10_37 (by decide) ?_
          refine zs_iload_n (pc := 263) C dX9_valueOf_263 rfl ?_
          refine zs_iald (r := 2074) (pc := 264) C dX9_valueOf_264 a_74 (by decide) (by omega) rfl (r_2074 _) (fun v264 e264 l264 u264 => ?_)
          refine zs_lload_n (pc := 265) C dX9_valueOf_265 rfl ?_
          refine zs_lload (pc := 266) C dX9_valueOf_266 rfl ?_
          refine zSip3 (pc := 268) C dX9_valueOf_268 s_X9_371 (c_X9_compares hX ) (by decide) ⟨Nat.zero_le _, Nat.zero_le _⟩ (Nat.le_of_ble_eq_true rfl) (fun x268 l268 u268 hp268 => ?_)
          have hq268 := hp268
          refine zs_if_eq (tgt := 278) (pc := 271) C dX9_valueOf_271 (by decide) (fun h271 => ?_) (fun h271 => ?_)
          · skip
            refine zs_lconst (n := 0) (pc := 278) C dX9_valueOf_278 rfl (by decide) ?_
            exact zs_lret (pc := 279) C hr hlk dX9_valueOf_279 ⟨by repeat (first | exact zsm_rf | assumption | refine zsm_C (by decide) ?_ | refine zsm_I (by decide) ?_ | refine zsm_J ?_ | refine zsm_c (by assumption) (by decide) ?_), trivial⟩
          · skip
            refine zs_lconst (n := 1) (pc := 274) C dX9_valueOf_274 rfl (by decide) ?_
            refine zs_goto (tgt := 279) (pc := 275) C dX9_valueOf_275 (by decide) ?_
            exact zs_lret (pc := 279) C hr hlk dX9_valueOf_279 ⟨by repeat (first | exact zsm_rf | assumption | refine zsm_C (by decide) ?_ | refine zsm_I (by decide) ?_ | refine zsm_J ?_ | refine zsm_c (by assumption) (by decide) ?_), trivial⟩
        · skip
          refine zs_tabIn (pc := 92) (tgt := 194) C 11 dX9_valueOf_92 h92 (by decide) rfl (by decide) ?_
          refine zs_aload_n (pc := 194) C dX9_valueOf_194 rfl ?_
          refine zs_lload_n (pc := 195) C dX9_valueOf_195 rfl ?_
          refine zs_lload (pc := 196) C dX9_valueOf_196 rfl ?_
          refine zs_laddF (pc := 198) C dX9_valueOf_198 (fun z198 hz1981 hz1982 => ?_)
          refine zVj1 (pc := 199) C dX9_valueOf_199 v_X9_364 (c_X9_bounded hX ) (by decide) (by decide) ⟨Nat.zero_le _, Nat.zero_le _⟩ (Nat.le_of_ble_eq_true rfl) (fun x199 G199 l199 u199 hp199 => ?_)
          obtain ⟨hz199, hq199⟩ := hp199
          exact zs_lret (pc := 202) C hr hlk dX9_valueOf_202 ⟨by repeat (first | exact zsm_rf | assumption | refine zsm_C (by decide) ?_ | refine zsm_I (by decide) ?_ | refine zsm_J ?_ | refine zsm_c (by assumption) (by decide) ?_), trivial⟩
        · skip
          refine zs_tabIn (pc := 92) (tgt := 203) C 12 dX9_valueOf_92 h92 (by decide) rfl (by decide) ?_
          refine zs_aload_n (pc := 203) C dX9_valueOf_203 rfl ?_
          refine zs_lload_n (pc := 204) C dX9_valueOf_204 rfl ?_
          refine zs_lload (pc := 205) C dX9_valueOf_205 rfl ?_
          refine zs_lsubF (pc := 207) C dX9_valueOf_207 (fun z207 hz2071 hz2072 => ?_)
          refine zVj1 (pc := 208) C dX9_valueOf_208 v_X9_364 (c_X9_bounded hX ) (by decide) (by decide) ⟨Nat.zero_le _, Nat.zero_le _⟩ (Nat.le_of_ble_eq_true rfl) (fun x208 G208 l208 u208 hp208 => ?_)
          obtain ⟨hz208, hq208⟩ := hp208
          exact zs_lret (pc := 211) C hr hlk dX9_valueOf_211 ⟨by repeat (first | exact zsm_rf | assumption | refine zsm_C (by decide) ?_ | refine zsm_I (by decide) ?_ | refine zsm_J ?_ | refine zsm_c (by assumption) (by decide) ?_), trivial⟩
        · skip
          refine zs_tabIn (pc := 92) (tgt := 212) C 13 dX9_valueOf_92 h92 (by decide) rfl (by decide) ?_
          refine zs_aload_n (pc := 212) C dX9_valueOf_212 rfl ?_
          refine zs_lload_n (pc := 213) C dX9_valueOf_213 rfl ?_
          refine zs_lload (pc := 214) C dX9_valueOf_214 rfl ?_
          refine zVj2 (pc := 216) C dX9_valueOf_216 v_X9_368 (c_X9_times hX ) (by decide) (by decide) ⟨Nat.zero_le _, Nat.zero_le _⟩ (Nat.le_of_ble_eq_true rfl) (fun x216 G216 l216 u216 hp216 => ?_)
          obtain ⟨hz216, hq216⟩ := hp216
          exact zs_lret (pc := 219) C hr hlk dX9_valueOf_219 ⟨by repeat (first | exact zsm_rf | assumption | refine zsm_C (by decide) ?_ | refine zsm_I (by decide) ?_ | refine zsm_J ?_ | refine zsm_c (by assumption) (by decide) ?_), trivial⟩
        · skip
          refine zs_tabIn (pc := 92) (tgt := 220) C 14 dX9_valueOf_92 h92 (by decide) rfl (by decide) ?_
          refine zs_aload_n (pc := 220) C dX9_valueOf_220 rfl ?_
          refine zs_aload_n (pc := 221) C dX9_valueOf_221 rfl ?_
          refine zs_getz (r := 1050) (pc := 222) C dX9_valueOf_222 w_X9_357 f_10_50 rfl (r_1050 0) (fun v222 e222 l222 u222 => ?_)
          refine zs_if_ne (tgt := 235) (pc := 225) C dX9_valueOf_225 (by decide) (fun h225 => ?_) (fun h225 => ?_)
          · skip
            refine zs_iconst (pc := 235) C dX9_valueOf_235 (by decide) ?_
            refine zs_goto (tgt := 240) (pc := 236) C dX9_valueOf_236 (by decide) ?_
            refine zs_putz (r := 1050) (pc := 240) C dX9_valueOf_240 w_X9_357 f_10_50 rfl (r_1050 0) (by omega) (by omega) ?_
            refine zs_aload_n (pc := 243) C dX9_valueOf_243 rfl ?_
            refine zs_getz (r := 1050) (pc := 244) C dX9_valueOf_244 w_X9_357 f_10_50 rfl (r_1050 0) (fun v244 e244 l244 u244 => ?_)
            try simp only [zuI_1, zuI_2, zuJ_1, zuJ_2, zuJ_3, zuP_1, zuP_2, zuP_3, zuC_1, zuC_2, reduceIte, Nat.reduceEqDiff, false_and, and_false, true_and, and_true, and_self, or_true, true_or, or_false, false_or] at e244
            refine zs_if_eq (tgt := 254) (pc := 247) C dX9_valueOf_247 (by decide) (fun h247 => ?_) (fun h247 => ?_)
            · skip
              refine zs_lload_n (pc := 254) C dX9_valueOf_254 rfl ?_
              refine zs_lload (pc := 255) C dX9_valueOf_255 rfl ?_
              refine zs_ldiv (pc := 257) C dX9_valueOf_257 (by omega) (fun z257 hz2571 hz2572 => ?_)
              exact zs_lret (pc := 258) C hr hlk dX9_valueOf_258 ⟨by repeat (first | exact zsm_rf | assumption | refine zsm_C (by decide) ?_ | refine zsm_I (by decide) ?_ | refine zsm_J ?_ | refine zsm_c (by assumption) (by decide) ?_), trivial⟩
            · skip
              refine zs_lconst (n := 0) (pc := 250) C dX9_valueOf_250 rfl (by decide) ?_
              refine zs_goto (tgt := 258) (pc := 251) C dX9_valueOf_251 (by decide) ?_
              exact zs_lret (pc := 258) C hr hlk dX9_valueOf_258 ⟨by repeat (first | exact zsm_rf | assumption | refine zsm_C (by decide) ?_ | refine zsm_I (by decide) ?_ | refine zsm_J ?_ | refine zsm_c (by assumption) (by decide) ?_), trivial⟩
          · skip
            refine zs_lload (pc := 228) C dX9_valueOf_228 rfl ?_
            refine zs_lconst (n := 0) (pc := 230) C dX9_valueOf_230 rfl (by decide) ?_
            refine zs_lcmp (pc := 231) C dX9_valueOf_231 (fun z231 hz231 => ?_)
            refine zs_if_ne (tgt := 239) (pc := 232) C dX9_valueOf_232 (by decide) (fun h232 => ?_) (fun h232 => ?_)
            · skip
              refine zs_iconst (pc := 239) C dX9_valueOf_239 (by decide) ?_
              refine zs_putz (r := 1050) (pc := 240) C dX9_valueOf_240 w_X9_357 f_10_50 rfl (r_1050 0) (by omega) (by omega) ?_
              refine zs_aload_n (pc := 243) C dX9_valueOf_243 rfl ?_
              refine zs_getz (r := 1050) (pc := 244) C dX9_valueOf_244 w_X9_357 f_10_50 rfl (r_1050 0) (fun v244 e244 l244 u244 => ?_)
              try simp only [zuI_1, zuI_2, zuJ_1, zuJ_2, zuJ_3, zuP_1, zuP_2, zuP_3, zuC_1, zuC_2, reduceIte, Nat.reduceEqDiff, false_and, and_false, true_and, and_true, and_self, or_true, true_or, or_false, false_or] at e244
              refine zs_if_eq (tgt := 254) (pc := 247) C dX9_valueOf_247 (by decide) (fun h247 => ?_) (fun h247 => ?_)
              · skip
                refine zs_lload_n (pc := 254) C dX9_valueOf_254 rfl ?_
                refine zs_lload (pc := 255) C dX9_valueOf_255 rfl ?_
                refine zs_ldiv (pc := 257) C dX9_valueOf_257 (by omega) (fun z257 hz2571 hz2572 => ?_)
                exact zs_lret (pc := 258) C hr hlk dX9_valueOf_258 ⟨by repeat (first | exact zsm_rf | assumption | refine zsm_C (by decide) ?_ | refine zsm_I (by decide) ?_ | refine zsm_J ?_ | refine zsm_c (by assumption) (by decide) ?_), trivial⟩
              · skip
                refine zs_lconst (n := 0) (pc := 250) C dX9_valueOf_250 rfl (by decide) ?_
                refine zs_goto (tgt := 258) (pc := 251) C dX9_valueOf_251 (by decide) ?_
                exact zs_lret (pc := 258) C hr hlk dX9_valueOf_258 ⟨by repeat (first | exact zsm_rf | assumption | refine zsm_C (by decide) ?_ | refine zsm_I (by decide) ?_ | refine zsm_J ?_ | refine zsm_c (by assumption) (by decide) ?_), trivial⟩
            · skip
              refine zs_iconst (pc := 235) C dX9_valueOf_235 (by decide) ?_
              refine zs_goto (tgt := 240) (pc := 236) C dX9_valueOf_236 (by decide) ?_
              refine zs_putz (r := 1050) (pc := 240) C dX9_valueOf_240 w_X9_357 f_10_50 rfl (r_1050 0) (by omega) (by omega) ?_
              refine zs_aload_n (pc := 243) C dX9_valueOf_243 rfl ?_
              refine zs_getz (r := 1050) (pc := 244) C dX9_valueOf_244 w_X9_357 f_10_50 rfl (r_1050 0) (fun v244 e244 l244 u244 => ?_)
              try simp only [zuI_1, zuI_2, zuJ_1, zuJ_2, zuJ_3, zuP_1, zuP_2, zuP_3, zuC_1, zuC_2, reduceIte, Nat.reduceEqDiff, false_and, and_false, true_and, and_true, and_self, or_true, true_or, or_false, false_or] at e244
              refine zs_if_eq (tgt := 254) (pc := 247) C dX9_valueOf_247 (by decide) (fun h247 => ?_) (fun h247 => ?_)
              · skip
                refine zs_lload_n (pc := 254) C dX9_valueOf_254 rfl ?_
                refine zs_lload (pc := 255) C dX9_valueOf_255 rfl ?_
                refine zs_ldiv (pc := 257) C dX9_valueOf_257 (by omega) (fun z257 hz2571 hz2572 => ?_)
                exact zs_lret (pc := 258) C hr hlk dX9_valueOf_258 ⟨by repeat (first | exact zsm_rf | assumption | refine zsm_C (by decide) ?_ | refine zsm_I (by decide) ?_ | refine zsm_J ?_ | refine zsm_c (by assumption) (by decide) ?_), trivial⟩
              · skip
                refine zs_lconst (n := 0) (pc := 250) C dX9_valueOf_250 rfl (by decide) ?_
                refine zs_goto (tgt := 258) (pc := 251) C dX9_valueOf_251 (by decide) ?_
                exact zs_lret (pc := 258) C hr hlk dX9_valueOf_258 ⟨by repeat (first | exact zsm_rf | assumption | refine zsm_C (by decide) ?_ | refine zsm_I (by decide) ?_ | refine zsm_J ?_ | refine zsm_c (by assumption) (by decide) ?_), trivial⟩
        · skip
          refine zs_tabOut (tgt := 259) (pc := 92) C dX9_valueOf_92 h92 (by decide) ?_
          refine zs_aload_n (pc := 259) C dX9_valueOf_259 rfl ?_
          refine zs_getf (pc := 260) C dX9_valueOf_260 w_X9_66 f_10_37 (by decide) ?_
          refine zs_iload_n (pc := 263) C dX9_valueOf_263 rfl ?_
          refine zs_iald (r := 2074) (pc := 264) C dX9_valueOf_264 a_74 (by decide) (by omega) rfl (r_2074 _) (fun v264 e264 l264 u264 => ?_)
          refine zs_lload_n (pc := 265) C dX9_valueOf_265 rfl ?_
          refine zs_lload (pc := 266) C dX9_valueOf_266 rfl ?_
          refine zSip3 (pc := 268) C dX9_valueOf_268 s_X9_371 (c_X9_compares hX ) (by decide) ⟨Nat.zero_le _, Nat.zero_le _⟩ (Nat.le_of_ble_eq_true rfl) (fun x268 l268 u268 hp268 => ?_)
          have hq268 := hp268
          refine zs_if_eq (tgt := 278) (pc := 271) C dX9_valueOf_271 (by decide) (fun h271 => ?_) (fun h271 => ?_)
          · skip
            refine zs_lconst (n := 0) (pc := 278) C dX9_valueOf_278 rfl (by decide) ?_
            exact zs_lret (pc := 279) C hr hlk dX9_valueOf_279 ⟨by repeat (first | exact zsm_rf | assumption | refine zsm_C (by decide) ?_ | refine zsm_I (by decide) ?_ | refine zsm_J ?_ | refine zsm_c (by assumption) (by decide) ?_), trivial⟩
          · skip
            refine zs_lconst (n := 1) (pc := 274) C dX9_valueOf_274 rfl (by decide) ?_
            refine zs_goto (tgt := 279) (pc := 275) C dX9_valueOf_275 (by decide) ?_
            exact zs_lret (pc := 279) C hr hlk dX9_valueOf_279 ⟨by repeat (first | exact zsm_rf | assumption | refine zsm_C (by decide) ?_ | refine zsm_I (by decide) ?_ | refine zsm_J ?_ | refine zsm_c (by assumption) (by decide) ?_), trivial⟩
      · skip
        refine zs_lload_n (pc := 61) C dX9_valueOf_61 rfl ?_
        refine zs_lconst (n := 0) (pc := 62) C dX9_valueOf_62 rfl (by decide) ?_
        refine zs_lcmp (pc := 63) C dX9_valueOf_63 (fun z63 hz63 => ?_)
        refine zs_if_ne (tgt := 71) (pc := 64) C dX9_valueOf_64 (by decide) (fun h64 => ?_) (fun h64 => ?_)
        · skip
          refine zs_lconst (n := 0) (pc := 71) C dX9_valueOf_71 rfl (by decide) ?_
          exact zs_lret (pc := 72) C hr hlk dX9_valueOf_72 ⟨by repeat (first | exact zsm_rf | assumption | refine zsm_C (by decide) ?_ | refine zsm_I (by decide) ?_ | refine zsm_J ?_ | refine zsm_c (by assumption) (by decide) ?_), trivial⟩
        · skip
          refine zs_lconst (n := 1) (pc := 67) C dX9_valueOf_67 rfl (by decide) ?_
          refine zs_goto (tgt := 72) (pc := 68) C dX9_valueOf_68 (by decide) ?_
          exact zs_lret (pc := 72) C hr hlk dX9_valueOf_72 ⟨by repeat (first | exact zsm_rf | assumption | refine zsm_C (by decide) ?_ | refine zsm_I (by decide) ?_ | refine zsm_J ?_ | refine zsm_c (by assumption) (by decide) ?_), trivial⟩
    · skip
      refine zs_aload_n (pc := 27) C dX9_valueOf_27 rfl ?_
      refine zs_getf (pc := 28) C dX9_valueOf_28 w_X9_81 f_10_48 (by decide) ?_
      refine zs_aload_n (pc := 31) C dX9_valueOf_31 rfl ?_
      refine zs_getf (pc := 32) C dX9_valueOf_32 w_X9_69 f_10_38 (by decide) ?_
      refine zs_iload_n (pc := 35) C dX9_valueOf_35 rfl ?_
      refine zs_iald (r := 2075) (pc := 36) C dX9_valueOf_36 a_75 (by decide) (by omega) rfl (r_2075 _) (fun v36 e36 l36 u36 => ?_)
      refine zs_lald (r := 2079) (pc := 37) C dX9_valueOf_37 a_79 (by decide) (by omega) rfl (fun v37 e37 l37 u37 => ?_)
      exact zs_lret (pc := 38) C hr hlk dX9_valueOf_38 ⟨by repeat (first | exact zsm_rf | assumption | refine zsm_C (by decide) ?_ | refine zsm_I (by decide) ?_ | refine zsm_J ?_ | refine zsm_c (by assumption) (by decide) ?_), trivial⟩
  · skip
    refine zs_aload_n (pc := 9) C dX9_valueOf_9 rfl ?_
    refine zs_getf (pc := 10) C dX9_valueOf_10 w_X9_69 f_10_38 (by decide) ?_
    refine zs_iload_n (pc := 13) C dX9_valueOf_13 rfl ?_
    refine zs_iald (r := 2075) (pc := 14) C dX9_valueOf_14 a_75 (by decide) (by omega) rfl (r_2075 _) (fun v14 e14 l14 u14 => ?_)
    refine zs_i2l (pc := 15) C dX9_valueOf_15 ?_
    exact zs_lret (pc := 16) C hr hlk dX9_valueOf_16 ⟨by repeat (first | exact zsm_rf | assumption | refine zsm_C (by decide) ?_ | refine zsm_I (by decide) ?_ | refine zsm_J ?_ | refine zsm_c (by assumption) (by decide) ?_), trivial⟩

set_option maxHeartbeats 4000000 in
set_option maxRecDepth 100000 in
theorem c_X9_lawOf {l : Launch} {Γ : zΓ} {G : zH} {w : Nat} {k : Int} (hX : zXs Γ) (hM : MI Γ w G)(hk : 0 ≤ k ∧ k < 7) (hl : G.1 2071 (Γ.2.1 w 34) k.toNat = 1) : zMet l Γ yX9_lawOf cX9_lawOf 3 (some .long) 2 [zr 10 w, zi k] G (zpj (fun x G' => zsm [1050] G G' ∧ True)) := by
  have hK := MI_l hM k (by omega) (by omega) hl
  refine zMet_of RX9 hX (by decide) rfl (Nat.le_of_ble_eq_true rfl) ?_
  intro p e s m args below meth c C hr hlk
  show Z p l e (zrm 2) s m args below meth c Γ 3 0 0 (MQ below (zQc Γ (zpj (fun x G' => zsm [1050] G G' ∧ True))) args s 0 0 (zA Γ)) 0 [some (zr 10 w), some (zi k), none] [] G
  refine zs_loc 1 rfl (fun ha1 hb1 => ?_)
  refine zs_aload_n (pc := 0) C dX9_lawOf_0 rfl ?_
  refine zs_iconst (pc := 1) C dX9_lawOf_1 (by decide) ?_
  refine zs_putz (r := 1050) (pc := 2) C dX9_lawOf_2 w_X9_357 f_10_50 rfl (r_1050 0) (by omega) (by omega) ?_
  refine zs_aload_n (pc := 5) C dX9_lawOf_5 rfl ?_
  refine zs_getf (pc := 6) C dX9_lawOf_6 w_X9_60 f_10_35 (by decide) ?_
  refine zs_iload_n (pc := 9) C dX9_lawOf_9 rfl ?_
  refine zs_iald (r := 2072) (pc := 10) C dX9_lawOf_10 a_72 (by decide) (by omega) rfl (r_2072 _) (fun v10 e10 l10 u10 => ?_)
  try simp only [zuI_1, zuI_2, zuJ_1, zuJ_2, zuJ_3, zuP_1, zuP_2, zuP_3, zuC_1, zuC_2, reduceIte, Nat.reduceEqDiff, false_and, and_false, true_and, and_true, and_self, or_true, true_or, or_false, false_or] at e10
  refine zs_istore_n (pc := 11) C dX9_lawOf_11 (by decide) ?_
  dsimp only [zset, zclr, znone]
  have L12 : ∀ (nn : Nat) (x2 : Int) (G1 : zH), (0 ≤ x2 ∧ x2 ≤ 64) → (zsm [1050] G G1) → (64 - x2).toNat < nn → Z p l e (zrm 2) s m args below meth c Γ 3 0 0 (MQ below (zQc Γ (zpj (fun x G' => zsm [1050] G G' ∧ True))) args s 0 0 (zA Γ)) 12 [some (zr 10 w), some (zi k), some (zi x2)] [] G1 := by
    intro nn
    induction nn with
    | zero => intro x2 G1 h12_0 h12_1 hm; exact absurd hm (Nat.not_lt_zero _)
    | succ nn ih12 =>
      intro x2 G1 h12_0 h12_1 hm12
      have hG1 := zsm_at h12_1 2073 (Γ.2.1 w 36) k.toNat (by decide)
      refine zs_iload_n (pc := 12) C dX9_lawOf_12 rfl ?_
      refine zs_aload_n (pc := 13) C dX9_lawOf_13 rfl ?_
      refine zs_getf (pc := 14) C dX9_lawOf_14 w_X9_63 f_10_36 (by decide) ?_
      refine zs_iload_n (pc := 17) C dX9_lawOf_17 rfl ?_
      refine zs_iald (r := 2073) (pc := 18) C dX9_lawOf_18 a_73 (by decide) (by omega) rfl (r_2073 _) (fun v18 e18 l18 u18 => ?_)
      refine zs_icmp_ge (tgt := 39) (pc := 19) C dX9_lawOf_19 (by decide) (fun h19 => ?_) (fun h19 => ?_)
      · skip
        refine zs_aload_n (pc := 39) C dX9_lawOf_39 rfl ?_
        refine zs_getz (r := 1050) (pc := 40) C dX9_lawOf_40 w_X9_357 f_10_50 rfl (r_1050 0) (fun v40 e40 l40 u40 => ?_)
        refine zs_if_eq (tgt := 50) (pc := 43) C dX9_lawOf_43 (by decide) (fun h43 => ?_) (fun h43 => ?_)
        · skip
          refine zs_aload_n (pc := 50) C dX9_lawOf_50 rfl ?_
          refine zs_getf (pc := 51) C dX9_lawOf_51 w_X9_85 f_10_49 (by decide) ?_
          refine zs_aload_n (pc := 54) C dX9_lawOf_54 rfl ?_
          refine zs_getf (pc := 55) C dX9_lawOf_55 w_X9_63 f_10_36 (by decide) ?_
          refine zs_iload_n (pc := 58) C dX9_lawOf_58 rfl ?_
          refine zs_iald (r := 2073) (pc := 59) C dX9_lawOf_59 a_73 (by decide) (by omega) rfl (r_2073 _) (fun v59 e59 l59 u59 => ?_)
          refine zs_iconst (pc := 60) C dX9_lawOf_60 (by decide) ?_
          first | refine zs_isub (pc := 61) C dX9_lawOf_61 (by omega) ?_ | refine zs_isubF (pc := 61) C dX9_lawOf_61 (fun z61 hz611 hz612 => ?_)
          refine zs_lald (r := 2080) (pc := 62) C dX9_lawOf_62 a_80 (by decide) (by omega) rfl (fun v62 e62 l62 u62 => ?_)
          exact zs_lret (pc := 63) C hr hlk dX9_lawOf_63 ⟨by repeat (first | exact zsm_rf | assumption | refine zsm_C (by decide) ?_ | refine zsm_I (by decide) ?_ | refine zsm_J ?_ | refine zsm_c (by assumption) (by decide) ?_), trivial⟩
        · skip
          refine zs_lconst (n := 0) (pc := 46) C dX9_lawOf_46 rfl (by decide) ?_
          refine zs_goto (tgt := 63) (pc := 47) C dX9_lawOf_47 (by decide) ?_
          exact zs_lret (pc := 63) C hr hlk dX9_lawOf_63 ⟨by repeat (first | exact zsm_rf | assumption | refine zsm_C (by decide) ?_ | refine zsm_I (by decide) ?_ | refine zsm_J ?_ | refine zsm_c (by assumption) (by decide) ?_), trivial⟩
      · skip
        refine zs_aload_n (pc := 22) C dX9_lawOf_22 rfl ?_
        refine zs_getf (pc := 23) C dX9_lawOf_23 w_X9_85 f_10_49 (by decide) ?_
        refine zs_iload_n (pc := 26) C dX9_lawOf_26 rfl ?_
        refine zs_aload_n (pc := 27) C dX9_lawOf_27 rfl ?_
        refine zs_iload_n (pc := 28) C dX9_lawOf_28 rfl ?_
        refine zVj1 (pc := 29) C dX9_lawOf_29 v_X9_414 (c_X9_valueOf hX (by repeat (first | assumption | refine MI_I (by decide) ?_ | refine MI_J ?_ | refine MI_sm (by assumption) (by decide) ?_ | refine MI_sn (by assumption) (by decide) ?_)) (by omega)) (by decide) (by decide) ⟨Nat.zero_le _, Nat.zero_le _⟩ (Nat.le_of_ble_eq_true rfl) (fun x29 G29 l29 u29 hp29 => ?_)
        obtain ⟨hz29, hq29⟩ := hp29
        refine zs_last (r := 2080) (pc := 32) C dX9_lawOf_32 a_80 (by decide) (by omega) rfl ?_
        first | refine zs_iinc (pc := 33) C dX9_lawOf_33 rfl (by decide) (by omega) ?_ | refine zs_iincF (pc := 33) C dX9_lawOf_33 rfl (by decide) (fun z33 hz331 hz332 => ?_)
        dsimp only [zset, zclr, znone]
        refine zs_goto (tgt := 12) (pc := 36) C dX9_lawOf_36 (by decide) ?_
        exact zs_wk (ih12 _ _ (by first | omega | (simp only [zuI_1, zuI_2, zuJ_1, zuJ_2, zuJ_3, zuP_1, zuP_2, zuP_3, zuC_1, zuC_2, reduceIte, Nat.reduceEqDiff, false_and, and_false, true_and, and_true, and_self, or_true, true_or, or_false, false_or]; omega)) (by repeat (first | exact zsm_rf | assumption | refine zsm_C (by decide) ?_ | refine zsm_I (by decide) ?_ | refine zsm_J ?_ | refine zsm_c (by assumption) (by decide) ?_)) (by first | omega | (simp only [zuI_1, zuI_2, zuJ_1, zuJ_2, zuJ_3, zuP_1, zuP_2, zuP_3, zuC_1, zuC_2, reduceIte, Nat.reduceEqDiff, false_and, and_false, true_and, and_true, and_self, or_true, true_or, or_false, false_or]; omega))) (zwk_s rfl (zwk_s rfl (zwk_s rfl zwk_0)))
  exact zs_wk (L12 _ _ _ (by first | omega | (simp only [zuI_1, zuI_2, zuJ_1, zuJ_2, zuJ_3, zuP_1, zuP_2, zuP_3, zuC_1, zuC_2, reduceIte, Nat.reduceEqDiff, false_and, and_false, true_and, and_true, and_self, or_true, true_or, or_false, false_or]; omega)) (by repeat (first | exact zsm_rf | assumption | refine zsm_C (by decide) ?_ | refine zsm_I (by decide) ?_ | refine zsm_J ?_ | refine zsm_c (by assumption) (by decide) ?_)) (Nat.lt_succ_self _)) (zwk_s rfl (zwk_s rfl (zwk_s rfl zwk_0)))

set_option maxHeartbeats 4000000 in
set_option maxRecDepth 100000 in
theorem c_X9_boundLaw {l : Launch} {Γ : zΓ} {G : zH} {w : Nat} {k a b : Int} (hX : zXs Γ) (hM : MI Γ w G)(hk : 0 ≤ k ∧ k < 7) : zMet l Γ yX9_boundLaw cX9_boundLaw 6 (some .int) 3 [zr 10 w, zi k, zi a, zi b] G (zpi (fun x G' => zsm [1050] G G' ∧ True)) := by
  refine zMet_of RX9 hX (by decide) rfl (Nat.le_of_ble_eq_true rfl) ?_
  intro p e s m args below meth c C hr hlk
  show Z p l e (zrm 3) s m args below meth c Γ 6 0 0 (MQ below (zQc Γ (zpi (fun x G' => zsm [1050] G G' ∧ True))) args s 0 0 (zA Γ)) 0 [some (zr 10 w), some (zi k), some (zi a), some (zi b), none, none] [] G
  refine zs_loc 1 rfl (fun ha1 hb1 => ?_)
  refine zs_loc 2 rfl (fun ha2 hb2 => ?_)
  refine zs_loc 3 rfl (fun ha3 hb3 => ?_)
  refine zs_aload_n (pc := 0) C dX9_boundLaw_0 rfl ?_
  refine zs_getf (pc := 1) C dX9_boundLaw_1 w_X9_57 f_10_34 (by decide) ?_
  refine zs_iload_n (pc := 4) C dX9_boundLaw_4 rfl ?_
  refine zs_zald (r := 2071) (pc := 5) C dX9_boundLaw_5 a_71 (by decide) (by omega) rfl (r_2071 _) (fun v5 e5 l5 u5 => ?_)
  refine zs_if_ne (tgt := 11) (pc := 6) C dX9_boundLaw_6 (by decide) (fun h6 => ?_) (fun h6 => ?_)
  · skip
    refine zs_aload_n (pc := 11) C dX9_boundLaw_11 rfl ?_
    refine zs_iload_n (pc := 12) C dX9_boundLaw_12 rfl ?_
    refine zVj1 (pc := 13) C dX9_boundLaw_13 v_X9_418 (c_X9_lawOf hX (by repeat (first | assumption | refine MI_I (by decide) ?_ | refine MI_J ?_ | refine MI_sm (by assumption) (by decide) ?_ | refine MI_sn (by assumption) (by decide) ?_)) (by omega) (by omega)) (by decide) (by decide) ⟨Nat.zero_le _, Nat.zero_le _⟩ (Nat.le_of_ble_eq_true rfl) (fun x13 G13 l13 u13 hp13 => ?_)
    obtain ⟨hz13, hq13⟩ := hp13
    refine zs_lstore (pc := 16) C dX9_boundLaw_16 (by decide) ?_
    dsimp only [zset, zclr, znone]
    refine zs_aload_n (pc := 18) C dX9_boundLaw_18 rfl ?_
    refine zs_getz (r := 1050) (pc := 19) C dX9_boundLaw_19 w_X9_357 f_10_50 rfl (r_1050 0) (fun v19 e19 l19 u19 => ?_)
    refine zs_if_eq (tgt := 29) (pc := 22) C dX9_boundLaw_22 (by decide) (fun h22 => ?_) (fun h22 => ?_)
    · skip
      refine zs_lload (pc := 29) C dX9_boundLaw_29 rfl ?_
      refine zs_lconst (n := 0) (pc := 31) C dX9_boundLaw_31 rfl (by decide) ?_
      refine zs_lcmp (pc := 32) C dX9_boundLaw_32 (fun z32 hz32 => ?_)
      refine zs_if_ge (tgt := 40) (pc := 33) C dX9_boundLaw_33 (by decide) (fun h33 => ?_) (fun h33 => ?_)
      · skip
        refine zs_lload (pc := 40) C dX9_boundLaw_40 rfl ?_
        refine zs_iload_n (pc := 42) C dX9_boundLaw_42 rfl ?_
        refine zs_i2l (pc := 43) C dX9_boundLaw_43 ?_
        refine zs_lcmp (pc := 44) C dX9_boundLaw_44 (fun z44 hz44 => ?_)
        refine zs_if_le (tgt := 52) (pc := 45) C dX9_boundLaw_45 (by decide) (fun h45 => ?_) (fun h45 => ?_)
        · skip
          refine zs_lload (pc := 52) C dX9_boundLaw_52 rfl ?_
          first | refine zs_l2i (pc := 54) C dX9_boundLaw_54 (by omega) ?_ | refine zs_l2iF (pc := 54) C dX9_boundLaw_54 (fun z54 hz541 hz542 => ?_)
          exact zs_iret (pc := 55) C hr hlk dX9_boundLaw_55 ⟨by repeat (first | exact zsm_rf | assumption | refine zsm_C (by decide) ?_ | refine zsm_I (by decide) ?_ | refine zsm_J ?_ | refine zsm_c (by assumption) (by decide) ?_), trivial⟩
        · skip
          refine zs_iload_n (pc := 48) C dX9_boundLaw_48 rfl ?_
          refine zs_goto (tgt := 55) (pc := 49) C dX9_boundLaw_49 (by decide) ?_
          exact zs_iret (pc := 55) C hr hlk dX9_boundLaw_55 ⟨by repeat (first | exact zsm_rf | assumption | refine zsm_C (by decide) ?_ | refine zsm_I (by decide) ?_ | refine zsm_J ?_ | refine zsm_c (by assumption) (by decide) ?_), trivial⟩
      · skip
        refine zs_iconst (pc := 36) C dX9_boundLaw_36 (by decide) ?_
        refine zs_goto (tgt := 55) (pc := 37) C dX9_boundLaw_37 (by decide) ?_
        exact zs_iret (pc := 55) C hr hlk dX9_boundLaw_55 ⟨by repeat (first | exact zsm_rf | assumption | refine zsm_C (by decide) ?_ | refine zsm_I (by decide) ?_ | refine zsm_J ?_ | refine zsm_c (by assumption) (by decide) ?_), trivial⟩
    · skip
      refine zs_iload_n (pc := 25) C dX9_boundLaw_25 rfl ?_
      refine zs_goto (tgt := 55) (pc := 26) C dX9_boundLaw_26 (by decide) ?_
      exact zs_iret (pc := 55) C hr hlk dX9_boundLaw_55 ⟨by repeat (first | exact zsm_rf | assumption | refine zsm_C (by decide) ?_ | refine zsm_I (by decide) ?_ | refine zsm_J ?_ | refine zsm_c (by assumption) (by decide) ?_), trivial⟩
  · skip
    refine zs_iload_n (pc := 9) C dX9_boundLaw_9 rfl ?_
    exact zs_iret (pc := 10) C hr hlk dX9_boundLaw_10 ⟨by repeat (first | exact zsm_rf | assumption | refine zsm_C (by decide) ?_ | refine zsm_I (by decide) ?_ | refine zsm_J ?_ | refine zsm_c (by assumption) (by decide) ?_), trivial⟩

set_option maxHeartbeats 4000000 in
set_option maxRecDepth 100000 in
theorem c_X9_fineOf {l : Launch} {Γ : zΓ} {G : zH} {w : Nat} {b0 p0 s0 : Int} (hX : zXs Γ) (hM : MI Γ w G)(hb : b0 = 0 ∨ b0 = 1)(hp : 0 ≤ p0 ∧ p0 ≤ 4)(hs : 0 ≤ s0 ∧ s0 ≤ 3) : zMet l Γ yX9_fineOf cX9_fineOf 4 (some .int) 4 [zr 10 w, zi b0, zi p0, zi s0] G (zpi (fun x G' => zsm [1050] G G' ∧ True)) := by
  refine zMet_of RX9 hX (by decide) rfl (Nat.le_of_ble_eq_true rfl) ?_
  intro p e s m args below meth c C hr hlk
  show Z p l e (zrm 4) s m args below meth c Γ 4 0 0 (MQ below (zQc Γ (zpi (fun x G' => zsm [1050] G G' ∧ True))) args s 0 0 (zA Γ)) 0 [some (zr 10 w), some (zi b0), some (zi p0), some (zi s0)] [] G
  refine zs_loc 1 rfl (fun ha1 hb1 => ?_)
  refine zs_loc 2 rfl (fun ha2 hb2 => ?_)
  refine zs_loc 3 rfl (fun ha3 hb3 => ?_)
  refine zs_aload_n (pc := 0) C dX9_fineOf_0 rfl ?_
  refine zs_iload_n (pc := 1) C dX9_fineOf_1 rfl ?_
  refine zs_iload_n (pc := 2) C dX9_fineOf_2 rfl ?_
  refine zs_iload_n (pc := 3) C dX9_fineOf_3 rfl ?_
  refine zVv3 (pc := 4) C dX9_fineOf_4 v_X9_421 (c_X9_layOf hX (by omega) (by omega) (by omega)) (by decide) (by decide) ⟨Nat.zero_le _, Nat.zero_le _⟩ (Nat.le_of_ble_eq_true rfl) (fun G4 hp4 => ?_)
  obtain ⟨hz4, hq4⟩ := hp4
  refine zs_aload_n (pc := 7) C dX9_fineOf_7 rfl ?_
  refine zs_iconst (pc := 8) C dX9_fineOf_8 (by decide) ?_
  refine zs_aload_n (pc := 9) C dX9_fineOf_9 rfl ?_
  refine zs_getf (pc := 10) C dX9_fineOf_10 w_X9_30 f_10_25 (by decide) ?_
  refine zs_iload_n (pc := 13) C dX9_fineOf_13 rfl ?_
  refine zs_iald (r := 2062) (pc := 14) C dX9_fineOf_14 a_62 (by decide) (by omega) rfl (r_2062 _) (fun v14 e14 l14 u14 => ?_)
  refine zs_sipush (pc := 15) C dX9_fineOf_15 (by decide) (by decide) ?_
  refine zVi3 (pc := 18) C dX9_fineOf_18 v_X9_424 (c_X9_boundLaw hX (by repeat (first | assumption | refine MI_I (by decide) ?_ | refine MI_J ?_ | refine MI_sm (by assumption) (by decide) ?_ | refine MI_sn (by assumption) (by decide) ?_)) (by omega)) (by decide) (by decide) ⟨Nat.zero_le _, Nat.zero_le _⟩ (Nat.le_of_ble_eq_true rfl) (fun x18 G18 l18 u18 hp18 => ?_)
  obtain ⟨hz18, hq18⟩ := hp18
  exact zs_iret (pc := 21) C hr hlk dX9_fineOf_21 ⟨by repeat (first | exact zsm_rf | assumption | refine zsm_C (by decide) ?_ | refine zsm_I (by decide) ?_ | refine zsm_J ?_ | refine zsm_c (by assumption) (by decide) ?_), trivial⟩

set_option maxHeartbeats 4000000 in
set_option maxRecDepth 100000 in
theorem c_X9_canGrind {l : Launch} {Γ : zΓ} {G : zH} {w : Nat} {b0 : Int} (hX : zXs Γ) (hb : b0 = 0 ∨ b0 = 1) : zMet l Γ yX9_canGrind cX9_canGrind 2 (some .boolean) 0 [zr 10 w, zi b0] G (zpi (fun x G' => G' = G ∧ ((x = 0 ∨ x = 1) ∧ (x = 1 → 0 < G.1 2088 (Γ.2.1 w 58) b0.toNat ∧ G.1 2087 (Γ.2.1 w 57) b0.toNat ≤ 59)))) := by
  refine zMet_of RX9 hX (by decide) rfl (Nat.le_of_ble_eq_true rfl) ?_
  intro p e s m args below meth c C hr hlk
  show Z p l e (zrm 0) s m args below meth c Γ 2 0 0 (MQ below (zQc Γ (zpi (fun x G' => G' = G ∧ ((x = 0 ∨ x = 1) ∧ (x = 1 → 0 < G.1 2088 (Γ.2.1 w 58) b0.toNat ∧ G.1 2087 (Γ.2.1 w 57) b0.toNat ≤ 59))))) args s 0 0 (zA Γ)) 0 [some (zr 10 w), some (zi b0)] [] G
  refine zs_loc 1 rfl (fun ha1 hb1 => ?_)
  refine zs_aload_n (pc := 0) C dX9_canGrind_0 rfl ?_
  refine zs_getf (pc := 1) C dX9_canGrind_1 w_X9_109 f_10_58 (by decide) ?_
  refine zs_iload_n (pc := 4) C dX9_canGrind_4 rfl ?_
  refine zs_iald (r := 2088) (pc := 5) C dX9_canGrind_5 a_88 (by decide) (by omega) rfl (r_2088 _) (fun v5 e5 l5 u5 => ?_)
  refine zs_if_le (tgt := 24) (pc := 6) C dX9_canGrind_6 (by decide) (fun h6 => ?_) (fun h6 => ?_)
  · skip
    refine zs_iconst (pc := 24) C dX9_canGrind_24 (by decide) ?_
    exact zs_zret (pc := 25) C hr hlk dX9_canGrind_25 (by omega) ⟨rfl, by first | omega | (simp only [zuI_1, zuI_2, zuJ_1, zuJ_2, zuJ_3, zuP_1, zuP_2, zuP_3, zuC_1, zuC_2, reduceIte, Nat.reduceEqDiff, false_and, and_false, true_and, and_true, and_self, or_true, true_or, or_false, false_or]; omega)⟩
  · skip
    refine zs_aload_n (pc := 9) C dX9_canGrind_9 rfl ?_
    refine zs_getf (pc := 10) C dX9_canGrind_10 w_X9_106 f_10_57 (by decide) ?_
    refine zs_iload_n (pc := 13) C dX9_canGrind_13 rfl ?_
    refine zs_iald (r := 2087) (pc := 14) C dX9_canGrind_14 a_87 (by decide) (by omega) rfl (r_2087 _) (fun v14 e14 l14 u14 => ?_)
    refine zs_bipush (pc := 15) C dX9_canGrind_15 (by decide) (by decide) ?_
    refine zs_icmp_ge (tgt := 24) (pc := 17) C dX9_canGrind_17 (by decide) (fun h17 => ?_) (fun h17 => ?_)
    · skip
      refine zs_iconst (pc := 24) C dX9_canGrind_24 (by decide) ?_
      exact zs_zret (pc := 25) C hr hlk dX9_canGrind_25 (by omega) ⟨rfl, by first | omega | (simp only [zuI_1, zuI_2, zuJ_1, zuJ_2, zuJ_3, zuP_1, zuP_2, zuP_3, zuC_1, zuC_2, reduceIte, Nat.reduceEqDiff, false_and, and_false, true_and, and_true, and_self, or_true, true_or, or_false, false_or]; omega)⟩
    · skip
      refine zs_iconst (pc := 20) C dX9_canGrind_20 (by decide) ?_
      refine zs_goto (tgt := 25) (pc := 21) C dX9_canGrind_21 (by decide) ?_
      exact zs_zret (pc := 25) C hr hlk dX9_canGrind_25 (by omega) ⟨rfl, by first | omega | (simp only [zuI_1, zuI_2, zuJ_1, zuJ_2, zuJ_3, zuP_1, zuP_2, zuP_3, zuC_1, zuC_2, reduceIte, Nat.reduceEqDiff, false_and, and_false, true_and, and_true, and_self, or_true, true_or, or_false, false_or]; omega)⟩

set_option maxHeartbeats 4000000 in
set_option maxRecDepth 100000 in
theorem c_X9_flourOf {l : Launch} {Γ : zΓ} {G : zH} {w : Nat} {b0 a : Int} (hX : zXs Γ) (hb : b0 = 0 ∨ b0 = 1) : zMet l Γ yX9_flourOf cX9_flourOf 5 (some .int) 0 [zr 10 w, zi b0, zi a] G (zpi (fun x G' => G' = G ∧ (x = zfl (G.1 2093 (Γ.2.1 w 64)) (G.1 2094 (Γ.2.1 w 65)) a (60 * b0).toNat (G.1 2087 (Γ.2.1 w 57) b0.toNat).toNat))) := by
  refine zMet_of RX9 hX (by decide) rfl (Nat.le_of_ble_eq_true rfl) ?_
  intro p e s m args below meth c C hr hlk
  show Z p l e (zrm 0) s m args below meth c Γ 5 0 0 (MQ below (zQc Γ (zpi (fun x G' => G' = G ∧ (x = zfl (G.1 2093 (Γ.2.1 w 64)) (G.1 2094 (Γ.2.1 w 65)) a (60 * b0).toNat (G.1 2087 (Γ.2.1 w 57) b0.toNat).toNat)))) args s 0 0 (zA Γ)) 0 [some (zr 10 w), some (zi b0), some (zi a), none, none] [] G
  refine zs_loc 1 rfl (fun ha1 hb1 => ?_)
  refine zs_loc 2 rfl (fun ha2 hb2 => ?_)
  refine zs_good (fun hGd => ?_)
  have hHA : ∀ i, 0 ≤ G.1 2094 (Γ.2.1 w 65) i ∧ G.1 2094 (Γ.2.1 w 65) i ≤ 99 := fun i => by have := hGd.1 2094 (Γ.2.1 w 65) i; rw [r_2094] at this; exact this
  refine zs_iconst (pc := 0) C dX9_flourOf_0 (by decide) ?_
  refine zs_istore_n (pc := 1) C dX9_flourOf_1 (by decide) ?_
  dsimp only [zset, zclr, znone]
  refine zs_iconst (pc := 2) C dX9_flourOf_2 (by decide) ?_
  refine zs_istore (pc := 3) C dX9_flourOf_3 (by decide) ?_
  dsimp only [zset, zclr, znone]
  have L5 : ∀ (nn : Nat) (x3 x4 : Int), (0 ≤ x4 ∧ x4 ≤ 60) → (x3 = zfl (G.1 2093 (Γ.2.1 w 64)) (G.1 2094 (Γ.2.1 w 65)) a (60 * b0).toNat x4.toNat) → (x4 ≤ G.1 2087 (Γ.2.1 w 57) b0.toNat) → (60 - x4).toNat < nn → Z p l e (zrm 0) s m args below meth c Γ 5 0 0 (MQ below (zQc Γ (zpi (fun x G' => G' = G ∧ (x = zfl (G.1 2093 (Γ.2.1 w 64)) (G.1 2094 (Γ.2.1 w 65)) a (60 * b0).toNat (G.1 2087 (Γ.2.1 w 57) b0.toNat).toNat)))) args s 0 0 (zA Γ)) 5 [some (zr 10 w), some (zi b0), some (zi a), some (zi x3), some (zi x4)] [] G := by
    intro nn
    induction nn with
    | zero => intro x3 x4 h5_0 h5_1 h5_2 hm; exact absurd hm (Nat.not_lt_zero _)
    | succ nn ih5 =>
      intro x3 x4 h5_0 h5_1 h5_2 hm5
      have hbd := zfl_b (fi := G.1 2093 (Γ.2.1 w 64)) (q := a) (base := (60 * b0).toNat) hHA x4.toNat
      have hst := zfl_step h5_1 (show 0 ≤ 60 * b0 by omega) h5_0.1
      refine zs_iload (pc := 5) C dX9_flourOf_5 rfl ?_
      refine zs_aload_n (pc := 7) C dX9_flourOf_7 rfl ?_
      refine zs_getf (pc := 8) C dX9_flourOf_8 w_X9_106 f_10_57 (by decide) ?_
      refine zs_iload_n (pc := 11) C dX9_flourOf_11 rfl ?_
      refine zs_iald (r := 2087) (pc := 12) C dX9_flourOf_12 a_87 (by decide) (by omega) rfl (r_2087 _) (fun v12 e12 l12 u12 => ?_)
      refine zs_icmp_ge (tgt := 57) (pc := 13) C dX9_flourOf_13 (by decide) (fun h13 => ?_) (fun h13 => ?_)
      · skip
        have hx4 : x4 = G.1 2087 (Γ.2.1 w 57) b0.toNat := by omega
        rw [hx4] at h5_1
        refine zs_iload_n (pc := 57) C dX9_flourOf_57 rfl ?_
        exact zs_iret (pc := 58) C hr hlk dX9_flourOf_58 ⟨rfl, h5_1⟩
      · skip
        refine zs_iload_n (pc := 16) C dX9_flourOf_16 rfl ?_
        refine zs_aload_n (pc := 17) C dX9_flourOf_17 rfl ?_
        refine zs_getf (pc := 18) C dX9_flourOf_18 w_X9_124 f_10_64 (by decide) ?_
        refine zs_bipush (pc := 21) C dX9_flourOf_21 (by decide) (by decide) ?_
        refine zs_iload_n (pc := 23) C dX9_flourOf_23 rfl ?_
        first | refine zs_imul (pc := 24) C dX9_flourOf_24 (by omega) ?_ | refine zs_imulF (pc := 24) C dX9_flourOf_24 (fun z24 hz241 hz242 => ?_)
        refine zs_iload (pc := 25) C dX9_flourOf_25 rfl ?_
        first | refine zs_iadd (pc := 27) C dX9_flourOf_27 (by omega) ?_ | refine zs_iaddF (pc := 27) C dX9_flourOf_27 (fun z27 hz271 hz272 => ?_)
        refine zs_iald (r := 2093) (pc := 28) C dX9_flourOf_28 a_93 (by decide) (by omega) rfl (r_2093 _) (fun v28 e28 l28 u28 => ?_)
        refine zs_iload_n (pc := 29) C dX9_flourOf_29 rfl ?_
        refine zs_icmp_lt (tgt := 48) (pc := 30) C dX9_flourOf_30 (by decide) (fun h30 => ?_) (fun h30 => ?_)
        · skip
          refine zs_iconst (pc := 48) C dX9_flourOf_48 (by decide) ?_
          first | refine zs_iadd (pc := 49) C dX9_flourOf_49 (by omega) ?_ | refine zs_iaddF (pc := 49) C dX9_flourOf_49 (fun z49 hz491 hz492 => ?_)
          refine zs_istore_n (pc := 50) C dX9_flourOf_50 (by decide) ?_
          dsimp only [zset, zclr, znone]
          first | refine zs_iinc (pc := 51) C dX9_flourOf_51 rfl (by decide) (by omega) ?_ | refine zs_iincF (pc := 51) C dX9_flourOf_51 rfl (by decide) (fun z51 hz511 hz512 => ?_)
          dsimp only [zset, zclr, znone]
          refine zs_goto (tgt := 5) (pc := 54) C dX9_flourOf_54 (by decide) ?_
          exact zs_wk (ih5 _ _ (by omega) (by first | exact (by rw [e44]; exact hst.1 (by rw [← e28]; omega)) | exact hst.2 (by rw [← e28]; omega)) (by omega) (by first | omega | (simp only [zuI_1, zuI_2, zuJ_1, zuJ_2, zuJ_3, zuP_1, zuP_2, zuP_3, zuC_1, zuC_2, reduceIte, Nat.reduceEqDiff, false_and, and_false, true_and, and_true, and_self, or_true, true_or, or_false, false_or]; omega))) (zwk_s rfl (zwk_s rfl (zwk_s rfl (zwk_s rfl (zwk_s rfl zwk_0)))))
        · skip
          refine zs_aload_n (pc := 33) C dX9_flourOf_33 rfl ?_
          refine zs_getf (pc := 34) C dX9_flourOf_34 w_X9_127 f_10_65 (by decide) ?_
          refine zs_bipush (pc := 37) C dX9_flourOf_37 (by decide) (by decide) ?_
          refine zs_iload_n (pc := 39) C dX9_flourOf_39 rfl ?_
          first | refine zs_imul (pc := 40) C dX9_flourOf_40 (by omega) ?_ | refine zs_imulF (pc := 40) C dX9_flourOf_40 (fun z40 hz401 hz402 => ?_)
          refine zs_iload (pc := 41) C dX9_flourOf_41 rfl ?_
          first | refine zs_iadd (pc := 43) C dX9_flourOf_43 (by omega) ?_ | refine zs_iaddF (pc := 43) C dX9_flourOf_43 (fun z43 hz431 hz432 => ?_)
          refine zs_iald (r := 2094) (pc := 44) C dX9_flourOf_44 a_94 (by decide) (by omega) rfl (r_2094 _) (fun v44 e44 l44 u44 => ?_)
          refine zs_goto (tgt := 49) (pc := 45) C dX9_flourOf_45 (by decide) ?_
          first | refine zs_iadd (pc := 49) C dX9_flourOf_49 (by omega) ?_ | refine zs_iaddF (pc := 49) C dX9_flourOf_49 (fun z49 hz491 hz492 => ?_)
          refine zs_istore_n (pc := 50) C dX9_flourOf_50 (by decide) ?_
          dsimp only [zset, zclr, znone]
          first | refine zs_iinc (pc := 51) C dX9_flourOf_51 rfl (by decide) (by omega) ?_ | refine zs_iincF (pc := 51) C dX9_flourOf_51 rfl (by decide) (fun z51 hz511 hz512 => ?_)
          dsimp only [zset, zclr, znone]
          refine zs_goto (tgt := 5) (pc := 54) C dX9_flourOf_54 (by decide) ?_
          exact zs_wk (ih5 _ _ (by omega) (by first | exact (by rw [e44]; exact hst.1 (by rw [← e28]; omega)) | exact hst.2 (by rw [← e28]; omega)) (by omega) (by first | omega | (simp only [zuI_1, zuI_2, zuJ_1, zuJ_2, zuJ_3, zuP_1, zuP_2, zuP_3, zuC_1, zuC_2, reduceIte, Nat.reduceEqDiff, false_and, and_false, true_and, and_true, and_self, or_true, true_or, or_false, false_or]; omega))) (zwk_s rfl (zwk_s rfl (zwk_s rfl (zwk_s rfl (zwk_s rfl zwk_0)))))
  exact zs_wk (L5 _ _ _ (by omega) rfl (by have := hGd.1 2087 (Γ.2.1 w 57) b0.toNat; rw [r_2087] at this; exact this.1) (Nat.lt_succ_self _)) (zwk_s rfl (zwk_s rfl (zwk_s rfl (zwk_s rfl (zwk_s rfl zwk_0)))))

set_option maxHeartbeats 4000000 in
set_option maxRecDepth 100000 in
theorem c_X9_isFine {l : Launch} {Γ : zΓ} {G : zH} {a : Int} (hX : zXs Γ)  : zMet l Γ yX9_isFine cX9_isFine 1 (some .boolean) 1 [zi a] G (zpi (fun x G' => G' = G ∧ (x = 0 ∨ x = 1))) := by
  refine zMet_of RX9 hX (by decide) rfl (Nat.le_of_ble_eq_true rfl) ?_
  intro p e s m args below meth c C hr hlk
  show Z p l e (zrm 1) s m args below meth c Γ 1 0 0 (MQ below (zQc Γ (zpi (fun x G' => G' = G ∧ (x = 0 ∨ x = 1)))) args s 0 0 (zA Γ)) 0 [some (zi a)] [] G
  refine zs_loc 0 rfl (fun ha0 hb0 => ?_)
  refine zs_iload_n (pc := 0) C dX9_isFine_0 rfl ?_
  refine zs_iconst (pc := 1) C dX9_isFine_1 (by decide) ?_
  refine zs_sipush (pc := 2) C dX9_isFine_2 (by decide) (by decide) ?_
  refine zSip3 (pc := 5) C dX9_isFine_5 s_X9_223 (c_X9_isIn hX ) (by decide) ⟨Nat.zero_le _, Nat.zero_le _⟩ (Nat.le_of_ble_eq_true rfl) (fun x5 l5 u5 hp5 => ?_)
  have hq5 := hp5
  exact zs_zret (pc := 8) C hr hlk dX9_isFine_8 (by omega) ⟨rfl, by first | omega | (simp only [zuI_1, zuI_2, zuJ_1, zuJ_2, zuJ_3, zuP_1, zuP_2, zuP_3, zuC_1, zuC_2, reduceIte, Nat.reduceEqDiff, false_and, and_false, true_and, and_true, and_self, or_true, true_or, or_false, false_or]; omega)⟩

set_option maxHeartbeats 4000000 in
set_option maxRecDepth 100000 in
theorem c_X9_heaviest {l : Launch} {Γ : zΓ} {G : zH} {w : Nat} {p0 : Int} (hX : zXs Γ) (hp : 0 ≤ p0 ∧ p0 ≤ 4) : zMet l Γ yX9_heaviest cX9_heaviest 4 (some .int) 1 [zr 10 w, zi p0] G (zpi (fun x G' => G' = G ∧ (-1 ≤ x ∧ x ≤ 3))) := by
  refine zMet_of RX9 hX (by decide) rfl (Nat.le_of_ble_eq_true rfl) ?_
  intro p e s m args below meth c C hr hlk
  show Z p l e (zrm 1) s m args below meth c Γ 4 0 0 (MQ below (zQc Γ (zpi (fun x G' => G' = G ∧ (-1 ≤ x ∧ x ≤ 3)))) args s 0 0 (zA Γ)) 0 [some (zr 10 w), some (zi p0), none, none] [] G
  refine zs_loc 1 rfl (fun ha1 hb1 => ?_)
  refine zs_iconst (pc := 0) C dX9_heaviest_0 (by decide) ?_
  refine zs_istore_n (pc := 1) C dX9_heaviest_1 (by decide) ?_
  dsimp only [zset, zclr, znone]
  refine zs_iconst (pc := 2) C dX9_heaviest_2 (by decide) ?_
  refine zs_istore_n (pc := 3) C dX9_heaviest_3 (by decide) ?_
  dsimp only [zset, zclr, znone]
  have L4 : ∀ (nn : Nat) (x2 x3 : Int), (0 ≤ x3 ∧ x3 ≤ 4) → (-1 ≤ x2 ∧ x2 ≤ 3) → (4 - x3).toNat < nn → Z p l e (zrm 1) s m args below meth c Γ 4 0 0 (MQ below (zQc Γ (zpi (fun x G' => G' = G ∧ (-1 ≤ x ∧ x ≤ 3)))) args s 0 0 (zA Γ)) 4 [some (zr 10 w), some (zi p0), some (zi x2), some (zi x3)] [] G := by
    intro nn
    induction nn with
    | zero => intro x2 x3 h4_0 h4_1 hm; exact absurd hm (Nat.not_lt_zero _)
    | succ nn ih4 =>
      intro x2 x3 h4_0 h4_1 hm4
      refine zs_iload_n (pc := 4) C dX9_heaviest_4 rfl ?_
      refine zs_aload_n (pc := 5) C dX9_heaviest_5 rfl ?_
      refine zs_geti (r := 1012) (pc := 6) C dX9_heaviest_6 w_X9_258 f_10_12 rfl (r_1012 0) (fun v6 e6 l6 u6 => ?_)
      refine zs_icmp_ge (tgt := 49) (pc := 9) C dX9_heaviest_9 (by decide) (fun h9 => ?_) (fun h9 => ?_)
      · skip
        refine zs_iload_n (pc := 49) C dX9_heaviest_49 rfl ?_
        exact zs_iret (pc := 50) C hr hlk dX9_heaviest_50 ⟨rfl, by first | omega | (simp only [zuI_1, zuI_2, zuJ_1, zuJ_2, zuJ_3, zuP_1, zuP_2, zuP_3, zuC_1, zuC_2, reduceIte, Nat.reduceEqDiff, false_and, and_false, true_and, and_true, and_self, or_true, true_or, or_false, false_or]; omega)⟩
      · skip
        refine zs_aload_n (pc := 12) C dX9_heaviest_12 rfl ?_
        refine zs_iconst (pc := 13) C dX9_heaviest_13 (by decide) ?_
        refine zs_iload_n (pc := 14) C dX9_heaviest_14 rfl ?_
        refine zs_iload_n (pc := 15) C dX9_heaviest_15 rfl ?_
        refine zVip3 (pc := 16) C dX9_heaviest_16 v_X9_394 (c_X9_leftOf hX (by omega) (by omega) (by omega)) (by decide) (by decide) ⟨Nat.zero_le _, Nat.zero_le _⟩ (Nat.le_of_ble_eq_true rfl) (fun x16 l16 u16 hp16 => ?_)
        have hq16 := hp16
        refine zs_if_le (tgt := 43) (pc := 19) C dX9_heaviest_19 (by decide) (fun h19 => ?_) (fun h19 => ?_)
        · skip
          first | refine zs_iinc (pc := 43) C dX9_heaviest_43 rfl (by decide) (by omega) ?_ | refine zs_iincF (pc := 43) C dX9_heaviest_43 rfl (by decide) (fun z43 hz431 hz432 => ?_)
          dsimp only [zset, zclr, znone]
          refine zs_goto (tgt := 4) (pc := 46) C dX9_heaviest_46 (by decide) ?_
          exact zs_wk (ih4 _ _ (by first | omega | (simp only [zuI_1, zuI_2, zuJ_1, zuJ_2, zuJ_3, zuP_1, zuP_2, zuP_3, zuC_1, zuC_2, reduceIte, Nat.reduceEqDiff, false_and, and_false, true_and, and_true, and_self, or_true, true_or, or_false, false_or]; omega)) (by first | omega | (simp only [zuI_1, zuI_2, zuJ_1, zuJ_2, zuJ_3, zuP_1, zuP_2, zuP_3, zuC_1, zuC_2, reduceIte, Nat.reduceEqDiff, false_and, and_false, true_and, and_true, and_self, or_true, true_or, or_false, false_or]; omega)) (by first | omega | (simp only [zuI_1, zuI_2, zuJ_1, zuJ_2, zuJ_3, zuP_1, zuP_2, zuP_3, zuC_1, zuC_2, reduceIte, Nat.reduceEqDiff, false_and, and_false, true_and, and_true, and_self, or_true, true_or, or_false, false_or]; omega))) (zwk_s rfl (zwk_s rfl (zwk_s rfl (zwk_s rfl zwk_0))))
        · skip
          refine zs_iload_n (pc := 22) C dX9_heaviest_22 rfl ?_
          refine zs_if_lt (tgt := 41) (pc := 23) C dX9_heaviest_23 (by decide) (fun h23 => ?_) (fun h23 => ?_)
          · skip
            refine zs_iload_n (pc := 41) C dX9_heaviest_41 rfl ?_
            refine zs_istore_n (pc := 42) C dX9_heaviest_42 (by decide) ?_
            dsimp only [zset, zclr, znone]
            first | refine zs_iinc (pc := 43) C dX9_heaviest_43 rfl (by decide) (by omega) ?_ | refine zs_iincF (pc := 43) C dX9_heaviest_43 rfl (by decide) (fun z43 hz431 hz432 => ?_)
            dsimp only [zset, zclr, znone]
            refine zs_goto (tgt := 4) (pc := 46) C dX9_heaviest_46 (by decide) ?_
            exact zs_wk (ih4 _ _ (by first | omega | (simp only [zuI_1, zuI_2, zuJ_1, zuJ_2, zuJ_3, zuP_1, zuP_2, zuP_3, zuC_1, zuC_2, reduceIte, Nat.reduceEqDiff, false_and, and_false, true_and, and_true, and_self, or_true, true_or, or_false, false_or]; omega)) (by first | omega | (simp only [zuI_1, zuI_2, zuJ_1, zuJ_2, zuJ_3, zuP_1, zuP_2, zuP_3, zuC_1, zuC_2, reduceIte, Nat.reduceEqDiff, false_and, and_false, true_and, and_true, and_self, or_true, true_or, or_false, false_or]; omega)) (by first | omega | (simp only [zuI_1, zuI_2, zuJ_1, zuJ_2, zuJ_3, zuP_1, zuP_2, zuP_3, zuC_1, zuC_2, reduceIte, Nat.reduceEqDiff, false_and, and_false, true_and, and_true, and_self, or_true, true_or, or_false, false_or]; omega))) (zwk_s rfl (zwk_s rfl (zwk_s rfl (zwk_s rfl zwk_0))))
          · skip
            refine zs_aload_n (pc := 26) C dX9_heaviest_26 rfl ?_
            refine zs_getf (pc := 27) C dX9_heaviest_27 w_X9_30 f_10_25 (by decide) ?_
            refine zs_iload_n (pc := 30) C dX9_heaviest_30 rfl ?_
            refine zs_iald (r := 2062) (pc := 31) C dX9_heaviest_31 a_62 (by decide) (by omega) rfl (r_2062 _) (fun v31 e31 l31 u31 => ?_)
            refine zs_aload_n (pc := 32) C dX9_heaviest_32 rfl ?_
            refine zs_getf (pc := 33) C dX9_heaviest_33 w_X9_30 f_10_25 (by decide) ?_
            refine zs_iload_n (pc := 36) C dX9_heaviest_36 rfl ?_
            refine zs_iald (r := 2062) (pc := 37) C dX9_heaviest_37 a_62 (by decide) (by omega) rfl (r_2062 _) (fun v37 e37 l37 u37 => ?_)
            refine zs_icmp_le (tgt := 43) (pc := 38) C dX9_heaviest_38 (by decide) (fun h38 => ?_) (fun h38 => ?_)
            · skip
              first | refine zs_iinc (pc := 43) C dX9_heaviest_43 rfl (by decide) (by omega) ?_ | refine zs_iincF (pc := 43) C dX9_heaviest_43 rfl (by decide) (fun z43 hz431 hz432 => ?_)
              dsimp only [zset, zclr, znone]
              refine zs_goto (tgt := 4) (pc := 46) C dX9_heaviest_46 (by decide) ?_
              exact zs_wk (ih4 _ _ (by first | omega | (simp only [zuI_1, zuI_2, zuJ_1, zuJ_2, zuJ_3, zuP_1, zuP_2, zuP_3, zuC_1, zuC_2, reduceIte, Nat.reduceEqDiff, false_and, and_false, true_and, and_true, and_self, or_true, true_or, or_false, false_or]; omega)) (by first | omega | (simp only [zuI_1, zuI_2, zuJ_1, zuJ_2, zuJ_3, zuP_1, zuP_2, zuP_3, zuC_1, zuC_2, reduceIte, Nat.reduceEqDiff, false_and, and_false, true_and, and_true, and_self, or_true, true_or, or_false, false_or]; omega)) (by first | omega | (simp only [zuI_1, zuI_2, zuJ_1, zuJ_2, zuJ_3, zuP_1, zuP_2, zuP_3, zuC_1, zuC_2, reduceIte, Nat.reduceEqDiff, false_and, and_false, true_and, and_true, and_self, or_true, true_or, or_false, false_or]; omega))) (zwk_s rfl (zwk_s rfl (zwk_s rfl (zwk_s rfl zwk_0))))
            · skip
              refine zs_iload_n (pc := 41) C dX9_heaviest_41 rfl ?_
              refine zs_istore_n (pc := 42) C dX9_heaviest_42 (by decide) ?_
              dsimp only [zset, zclr, znone]
              first | refine zs_iinc (pc := 43) C dX9_heaviest_43 rfl (by decide) (by omega) ?_ | refine zs_iincF (pc := 43) C dX9_heaviest_43 rfl (by decide) (fun z43 hz431 hz432 => ?_)
              dsimp only [zset, zclr, znone]
              refine zs_goto (tgt := 4) (pc := 46) C dX9_heaviest_46 (by decide) ?_
              exact zs_wk (ih4 _ _ (by first | omega | (simp only [zuI_1, zuI_2, zuJ_1, zuJ_2, zuJ_3, zuP_1, zuP_2, zuP_3, zuC_1, zuC_2, reduceIte, Nat.reduceEqDiff, false_and, and_false, true_and, and_true, and_self, or_true, true_or, or_false, false_or]; omega)) (by first | omega | (simp only [zuI_1, zuI_2, zuJ_1, zuJ_2, zuJ_3, zuP_1, zuP_2, zuP_3, zuC_1, zuC_2, reduceIte, Nat.reduceEqDiff, false_and, and_false, true_and, and_true, and_self, or_true, true_or, or_false, false_or]; omega)) (by first | omega | (simp only [zuI_1, zuI_2, zuJ_1, zuJ_2, zuJ_3, zuP_1, zuP_2, zuP_3, zuC_1, zuC_2, reduceIte, Nat.reduceEqDiff, false_and, and_false, true_and, and_true, and_self, or_true, true_or, or_false, false_or]; omega))) (zwk_s rfl (zwk_s rfl (zwk_s rfl (zwk_s rfl zwk_0))))
  exact zs_wk (L4 _ _ _ (by first | omega | (simp only [zuI_1, zuI_2, zuJ_1, zuJ_2, zuJ_3, zuP_1, zuP_2, zuP_3, zuC_1, zuC_2, reduceIte, Nat.reduceEqDiff, false_and, and_false, true_and, and_true, and_self, or_true, true_or, or_false, false_or]; omega)) (by first | omega | (simp only [zuI_1, zuI_2, zuJ_1, zuJ_2, zuJ_3, zuP_1, zuP_2, zuP_3, zuC_1, zuC_2, reduceIte, Nat.reduceEqDiff, false_and, and_false, true_and, and_true, and_self, or_true, true_or, or_false, false_or]; omega)) (Nat.lt_succ_self _)) (zwk_s rfl (zwk_s rfl (zwk_s rfl (zwk_s rfl zwk_0))))

set_option maxHeartbeats 4000000 in
set_option maxRecDepth 100000 in
theorem c_X9_number1 {l : Launch} {Γ : zΓ} {G : zH} {w : Nat} {k : Int} (hX : zXs Γ) (hk : 0 < k) : zMet l Γ yX9_number1 cX9_number1 2 (some .int) 0 [zr 10 w, zi k] G (zpi (fun x G' => zsm [] G G' ∧ (0 ≤ x ∧ x < k))) := by
  refine zMet_of RX9 hX (by decide) rfl (Nat.le_of_ble_eq_true rfl) ?_
  intro p e s m args below meth c C hr hlk
  show Z p l e (zrm 0) s m args below meth c Γ 2 0 0 (MQ below (zQc Γ (zpi (fun x G' => zsm [] G G' ∧ (0 ≤ x ∧ x < k)))) args s 0 0 (zA Γ)) 0 [some (zr 10 w), some (zi k)] [] G
  refine zs_loc 1 rfl (fun ha1 hb1 => ?_)
  refine zs_aload_n (pc := 0) C dX9_number1_0 rfl ?_
  refine zs_aload_n (pc := 1) C dX9_number1_1 rfl ?_
  refine zs_getj (r := 1061) (pc := 2) C dX9_number1_2 w_X9_375 f_10_61 rfl (fun v2 e2 l2 u2 => ?_)
  refine zs_ldc2 (n := 1103515245) (pc := 5) C dX9_number1_5 q_X9_448 (by decide) (by decide) ?_
  refine zs_lmulF (pc := 8) C dX9_number1_8 (fun z8 hz81 hz82 => ?_)
  refine zs_ldc2 (n := 12345) (pc := 9) C dX9_number1_9 q_X9_450 (by decide) (by decide) ?_
  refine zs_laddF (pc := 12) C dX9_number1_12 (fun z12 hz121 hz122 => ?_)
  refine zs_ldc2 (n := 2147483647) (pc := 13) C dX9_number1_13 q_X9_452 (by decide) (by decide) ?_
  refine zs_landM (pc := 16) C dX9_number1_16 (fun z16 hz161 hz162 => ?_)
  refine zs_putj (r := 1061) (pc := 17) C dX9_number1_17 w_X9_375 f_10_61 rfl ?_
  refine zs_aload_n (pc := 20) C dX9_number1_20 rfl ?_
  refine zs_getj (r := 1061) (pc := 21) C dX9_number1_21 w_X9_375 f_10_61 rfl (fun v21 e21 l21 u21 => ?_)
  try simp only [zuI_1, zuI_2, zuJ_1, zuJ_2, zuJ_3, zuP_1, zuP_2, zuP_3, zuC_1, zuC_2, reduceIte, Nat.reduceEqDiff, false_and, and_false, true_and, and_true, and_self, or_true, true_or, or_false, false_or] at e21
  refine zs_ldc2 (n := 65536) (pc := 24) C dX9_number1_24 q_X9_454 (by decide) (by decide) ?_
  refine zs_ldivP (pc := 27) C dX9_number1_27 (by omega) (by omega) (fun hz271 hz272 => ?_)
  refine zs_iload_n (pc := 28) C dX9_number1_28 rfl ?_
  refine zs_i2l (pc := 29) C dX9_number1_29 ?_
  refine zs_lremP (pc := 30) C dX9_number1_30 (by omega) (by omega) (fun hz301 hz302 => ?_)
  first | refine zs_l2i (pc := 31) C dX9_number1_31 (by omega) ?_ | refine zs_l2iF (pc := 31) C dX9_number1_31 (fun z31 hz311 hz312 => ?_)
  exact zs_iret (pc := 32) C hr hlk dX9_number1_32 ⟨by repeat (first | exact zsm_rf | assumption | refine zsm_C (by decide) ?_ | refine zsm_I (by decide) ?_ | refine zsm_J ?_ | refine zsm_c (by assumption) (by decide) ?_), by first | omega | (simp only [zuI_1, zuI_2, zuJ_1, zuJ_2, zuJ_3, zuP_1, zuP_2, zuP_3, zuC_1, zuC_2, reduceIte, Nat.reduceEqDiff, false_and, and_false, true_and, and_true, and_self, or_true, true_or, or_false, false_or]; omega)⟩

set_option maxHeartbeats 4000000 in
set_option maxRecDepth 100000 in
theorem c_X9_begin {l : Launch} {Γ : zΓ} {G : zH} {w : Nat}  (hX : zXs Γ)  : zMet l Γ yX9_begin cX9_begin 2 none 0 [zr 10 w] G (zpv (fun G' => zsm [2081, 2082, 2083, 2084, 2085, 2086, 2087, 2088, 2089, 2090, 1083, 1084, 1086] G G' ∧ True)) := by
  refine zMet_of RX9 hX (by decide) rfl (Nat.le_of_ble_eq_true rfl) ?_
  intro p e s m args below meth c C hr hlk
  show Z p l e (zrm 0) s m args below meth c Γ 2 0 0 (MQ below (zQc Γ (zpv (fun G' => zsm [2081, 2082, 2083, 2084, 2085, 2086, 2087, 2088, 2089, 2090, 1083, 1084, 1086] G G' ∧ True))) args s 0 0 (zA Γ)) 0 [some (zr 10 w), none] [] G
  refine zs_iconst (pc := 0) C dX9_begin_0 (by decide) ?_
  refine zs_istore_n (pc := 1) C dX9_begin_1 (by decide) ?_
  dsimp only [zset, zclr, znone]
  have L2 : ∀ (nn : Nat) (x1 : Int) (G1 : zH), (0 ≤ x1 ∧ x1 ≤ 20) → (zsm [2081, 2082, 2083, 2084, 2085, 2086, 2087, 2088, 2089, 2090, 1083, 1084, 1086] G G1) → (20 - x1).toNat < nn → Z p l e (zrm 0) s m args below meth c Γ 2 0 0 (MQ below (zQc Γ (zpv (fun G' => zsm [2081, 2082, 2083, 2084, 2085, 2086, 2087, 2088, 2089, 2090, 1083, 1084, 1086] G G' ∧ True))) args s 0 0 (zA Γ)) 2 [some (zr 10 w), some (zi x1)] [] G1 := by
    intro nn
    induction nn with
    | zero => intro x1 G1 h2_0 h2_1 hm; exact absurd hm (Nat.not_lt_zero _)
    | succ nn ih2 =>
      intro x1 G1 h2_0 h2_1 hm2
      refine zs_iload_n (pc := 2) C dX9_begin_2 rfl ?_
      refine zs_bipush (pc := 3) C dX9_begin_3 (by decide) (by decide) ?_
      refine zs_icmp_ge (tgt := 57) (pc := 5) C dX9_begin_5 (by decide) (fun h5 => ?_) (fun h5 => ?_)
      · skip
        refine zs_iconst (pc := 57) C dX9_begin_57 (by decide) ?_
        refine zs_istore_n (pc := 58) C dX9_begin_58 (by decide) ?_
        dsimp only [zset, zclr, znone]
        have L59 : ∀ (nn : Nat) (x1 : Int) (G2 : zH), (0 ≤ x1 ∧ x1 ≤ 5) → (zsm [2081, 2082, 2083, 2084, 2085, 2086, 2087, 2088, 2089, 2090, 1083, 1084, 1086] G G2) → (5 - x1).toNat < nn → Z p l e (zrm 0) s m args below meth c Γ 2 0 0 (MQ below (zQc Γ (zpv (fun G' => zsm [2081, 2082, 2083, 2084, 2085, 2086, 2087, 2088, 2089, 2090, 1083, 1084, 1086] G G' ∧ True))) args s 0 0 (zA Γ)) 59 [some (zr 10 w), some (zi x1)] [] G2 := by
          intro nn
          induction nn with
          | zero => intro x1 G2 h59_0 h59_1 hm; exact absurd hm (Nat.not_lt_zero _)
          | succ nn ih59 =>
            intro x1 G2 h59_0 h59_1 hm59
            refine zs_iload_n (pc := 59) C dX9_begin_59 rfl ?_
            refine zs_iconst (pc := 60) C dX9_begin_60 (by decide) ?_
            refine zs_icmp_ge (tgt := 99) (pc := 61) C dX9_begin_61 (by decide) (fun h61 => ?_) (fun h61 => ?_)
            · skip
              refine zs_aload_n (pc := 99) C dX9_begin_99 rfl ?_
              refine zs_getf (pc := 100) C dX9_begin_100 w_X9_106 f_10_57 (by decide) ?_
              refine zs_iconst (pc := 103) C dX9_begin_103 (by decide) ?_
              refine zs_iconst (pc := 104) C dX9_begin_104 (by decide) ?_
              refine zs_iast (r := 2087) (pc := 105) C dX9_begin_105 a_87 (by decide) (by omega) rfl (r_2087 _) (by omega) ?_
              refine zs_aload_n (pc := 106) C dX9_begin_106 rfl ?_
              refine zs_getf (pc := 107) C dX9_begin_107 w_X9_109 f_10_58 (by decide) ?_
              refine zs_iconst (pc := 110) C dX9_begin_110 (by decide) ?_
              refine zs_aload_n (pc := 111) C dX9_begin_111 rfl ?_
              refine zs_getf (pc := 112) C dX9_begin_112 w_X9_20 f_10_22 (by decide) ?_
              refine zs_iconst (pc := 115) C dX9_begin_115 (by decide) ?_
              refine zs_iald (r := 2059) (pc := 116) C dX9_begin_116 a_59 (by decide) (by omega) rfl rfl (fun v116 e116 l116 u116 => ?_)
              try simp only [zuI_1, zuI_2, zuJ_1, zuJ_2, zuJ_3, zuP_1, zuP_2, zuP_3, zuC_1, zuC_2, reduceIte, Nat.reduceEqDiff, false_and, and_false, true_and, and_true, and_self, or_true, true_or, or_false, false_or] at e116
              have hoo := rs_2059 (0 : Int).toNat
              refine zs_iast (r := 2088) (pc := 117) C dX9_begin_117 a_88 (by decide) (by omega) rfl (r_2088 _) (by omega) ?_
              refine zs_aload_n (pc := 118) C dX9_begin_118 rfl ?_
              refine zs_getf (pc := 119) C dX9_begin_119 w_X9_112 f_10_59 (by decide) ?_
              refine zs_iconst (pc := 122) C dX9_begin_122 (by decide) ?_
              refine zs_aload_n (pc := 123) C dX9_begin_123 rfl ?_
              refine zs_getf (pc := 124) C dX9_begin_124 w_X9_20 f_10_22 (by decide) ?_
              refine zs_iconst (pc := 127) C dX9_begin_127 (by decide) ?_
              refine zs_iald (r := 2059) (pc := 128) C dX9_begin_128 a_59 (by decide) (by omega) rfl rfl (fun v128 e128 l128 u128 => ?_)
              try simp only [zuI_1, zuI_2, zuJ_1, zuJ_2, zuJ_3, zuP_1, zuP_2, zuP_3, zuC_1, zuC_2, reduceIte, Nat.reduceEqDiff, false_and, and_false, true_and, and_true, and_self, or_true, true_or, or_false, false_or] at e128
              have hoo2 := rs_2059 (2 : Int).toNat
              refine zs_iast (r := 2089) (pc := 129) C dX9_begin_129 a_89 (by decide) (by omega) rfl (r_2089 _) (by omega) ?_
              refine zs_aload_n (pc := 130) C dX9_begin_130 rfl ?_
              refine zs_getf (pc := 131) C dX9_begin_131 w_X9_115 f_10_60 (by decide) ?_
              refine zs_iconst (pc := 134) C dX9_begin_134 (by decide) ?_
              refine zs_iconst (pc := 135) C dX9_begin_135 (by decide) ?_
              refine zs_iast (r := 2090) (pc := 136) C dX9_begin_136 a_90 (by decide) (by omega) rfl (r_2090 _) (by omega) ?_
              refine zs_aload_n (pc := 137) C dX9_begin_137 rfl ?_
              refine zs_aload_n (pc := 138) C dX9_begin_138 rfl ?_
              refine zs_getf (pc := 139) C dX9_begin_139 w_X9_20 f_10_22 (by decide) ?_
              refine zs_iconst (pc := 142) C dX9_begin_142 (by decide) ?_
              refine zs_iald (r := 2059) (pc := 143) C dX9_begin_143 a_59 (by decide) (by omega) rfl rfl (fun v143 e143 l143 u143 => ?_)
              try simp only [zuI_1, zuI_2, zuJ_1, zuJ_2, zuJ_3, zuP_1, zuP_2, zuP_3, zuC_1, zuC_2, reduceIte, Nat.reduceEqDiff, false_and, and_false, true_and, and_true, and_self, or_true, true_or, or_false, false_or] at e143
              have hoo3 := rs_2059 (3 : Int).toNat
              refine zs_i2l (pc := 144) C dX9_begin_144 ?_
              refine zs_putj (r := 1061) (pc := 145) C dX9_begin_145 w_X9_375 f_10_61 rfl ?_
              refine zs_aload_n (pc := 148) C dX9_begin_148 rfl ?_
              refine zs_iconst (pc := 149) C dX9_begin_149 (by decide) ?_
              refine zs_puti (r := 1083) (pc := 150) C dX9_begin_150 w_X9_379 f_10_83 rfl (r_1083 0) (by omega) ?_
              refine zs_aload_n (pc := 153) C dX9_begin_153 rfl ?_
              refine zs_iconst (pc := 154) C dX9_begin_154 (by decide) ?_
              refine zs_puti (r := 1084) (pc := 155) C dX9_begin_155 w_X9_382 f_10_84 rfl (r_1084 0) (by omega) ?_
              refine zs_aload_n (pc := 158) C dX9_begin_158 rfl ?_
              refine zs_iconst (pc := 159) C dX9_begin_159 (by decide) ?_
              refine zs_putz (r := 1086) (pc := 160) C dX9_begin_160 w_X9_385 f_10_86 rfl (r_1086 0) (by omega) (by omega) ?_
              exact zs_vret (pc := 163) C hr hlk dX9_begin_163 ⟨by repeat (first | exact zsm_rf | assumption | refine zsm_C (by decide) ?_ | refine zsm_I (by decide) ?_ | refine zsm_J ?_ | refine zsm_c (by assumption) (by decide) ?_), trivial⟩
            · skip
              refine zs_aload_n (pc := 64) C dX9_begin_64 rfl ?_
              refine zs_getf (pc := 65) C dX9_begin_65 w_X9_94 f_10_53 (by decide) ?_
              refine zs_iload_n (pc := 68) C dX9_begin_68 rfl ?_
              refine zs_iconst (pc := 69) C dX9_begin_69 (by decide) ?_
              refine zs_iast (r := 2083) (pc := 70) C dX9_begin_70 a_83 (by decide) (by omega) rfl (r_2083 _) (by omega) ?_
              refine zs_aload_n (pc := 71) C dX9_begin_71 rfl ?_
              refine zs_getf (pc := 72) C dX9_begin_72 w_X9_97 f_10_54 (by decide) ?_
              refine zs_iload_n (pc := 75) C dX9_begin_75 rfl ?_
              refine zs_iconst (pc := 76) C dX9_begin_76 (by decide) ?_
              refine zs_iast (r := 2084) (pc := 77) C dX9_begin_77 a_84 (by decide) (by omega) rfl (r_2084 _) (by omega) ?_
              refine zs_aload_n (pc := 78) C dX9_begin_78 rfl ?_
              refine zs_getf (pc := 79) C dX9_begin_79 w_X9_100 f_10_55 (by decide) ?_
              refine zs_iload_n (pc := 82) C dX9_begin_82 rfl ?_
              refine zs_iconst (pc := 83) C dX9_begin_83 (by decide) ?_
              refine zs_iast (r := 2085) (pc := 84) C dX9_begin_84 a_85 (by decide) (by omega) rfl (r_2085 _) (by omega) ?_
              refine zs_aload_n (pc := 85) C dX9_begin_85 rfl ?_
              refine zs_getf (pc := 86) C dX9_begin_86 w_X9_103 f_10_56 (by decide) ?_
              refine zs_iload_n (pc := 89) C dX9_begin_89 rfl ?_
              refine zs_bipush (pc := 90) C dX9_begin_90 (by decide) (by decide) ?_
              refine zs_iast (r := 2086) (pc := 92) C dX9_begin_92 a_86 (by decide) (by omega) rfl (r_2086 _) (by omega) ?_
              first | refine zs_iinc (pc := 93) C dX9_begin_93 rfl (by decide) (by omega) ?_ | refine zs_iincF (pc := 93) C dX9_begin_93 rfl (by decide) (fun z93 hz931 hz932 => ?_)
              dsimp only [zset, zclr, znone]
              refine zs_goto (tgt := 59) (pc := 96) C dX9_begin_96 (by decide) ?_
              exact zs_wk (ih59 _ _ (by first | omega | (simp only [zuI_1, zuI_2, zuJ_1, zuJ_2, zuJ_3, zuP_1, zuP_2, zuP_3, zuC_1, zuC_2, reduceIte, Nat.reduceEqDiff, false_and, and_false, true_and, and_true, and_self, or_true, true_or, or_false, false_or]; omega)) (by repeat (first | exact zsm_rf | assumption | refine zsm_C (by decide) ?_ | refine zsm_I (by decide) ?_ | refine zsm_J ?_ | refine zsm_c (by assumption) (by decide) ?_)) (by first | omega | (simp only [zuI_1, zuI_2, zuJ_1, zuJ_2, zuJ_3, zuP_1, zuP_2, zuP_3, zuC_1, zuC_2, reduceIte, Nat.reduceEqDiff, false_and, and_false, true_and, and_true, and_self, or_true, true_or, or_false, false_or]; omega))) (zwk_s rfl (zwk_s rfl zwk_0))
        exact zs_wk (L59 _ _ _ (by first | omega | (simp only [zuI_1, zuI_2, zuJ_1, zuJ_2, zuJ_3, zuP_1, zuP_2, zuP_3, zuC_1, zuC_2, reduceIte, Nat.reduceEqDiff, false_and, and_false, true_and, and_true, and_self, or_true, true_or, or_false, false_or]; omega)) (by repeat (first | exact zsm_rf | assumption | refine zsm_C (by decide) ?_ | refine zsm_I (by decide) ?_ | refine zsm_J ?_ | refine zsm_c (by assumption) (by decide) ?_)) (Nat.lt_succ_self _)) (zwk_s rfl (zwk_s rfl zwk_0))
      · skip
        refine zs_aload_n (pc := 8) C dX9_begin_8 rfl ?_
        refine zs_getf (pc := 9) C dX9_begin_9 w_X9_88 f_10_51 (by decide) ?_
        refine zs_iload_n (pc := 12) C dX9_begin_12 rfl ?_
        refine zs_iload_n (pc := 13) C dX9_begin_13 rfl ?_
        refine zs_iconst (pc := 14) C dX9_begin_14 (by decide) ?_
        refine zs_aload_n (pc := 15) C dX9_begin_15 rfl ?_
        refine zs_geti (r := 1013) (pc := 16) C dX9_begin_16 w_X9_261 f_10_13 rfl (r_1013 0) (fun v16 e16 l16 u16 => ?_)
        first | refine zs_imul (pc := 19) C dX9_begin_19 (by omega) ?_ | refine zs_imulF (pc := 19) C dX9_begin_19 (fun z19 hz191 hz192 => ?_)
        refine zs_icmp_ge (tgt := 42) (pc := 20) C dX9_begin_20 (by decide) (fun h20 => ?_) (fun h20 => ?_)
        · skip
          refine zs_iconst (pc := 42) C dX9_begin_42 (by decide) ?_
          refine zs_iast (r := 2081) (pc := 43) C dX9_begin_43 a_81 (by decide) (by omega) rfl (r_2081 _) (by omega) ?_
          refine zs_aload_n (pc := 44) C dX9_begin_44 rfl ?_
          refine zs_getf (pc := 45) C dX9_begin_45 w_X9_91 f_10_52 (by decide) ?_
          refine zs_iload_n (pc := 48) C dX9_begin_48 rfl ?_
          refine zs_iconst (pc := 49) C dX9_begin_49 (by decide) ?_
          refine zs_iast (r := 2082) (pc := 50) C dX9_begin_50 a_82 (by decide) (by omega) rfl (r_2082 _) (by omega) ?_
          first | refine zs_iinc (pc := 51) C dX9_begin_51 rfl (by decide) (by omega) ?_ | refine zs_iincF (pc := 51) C dX9_begin_51 rfl (by decide) (fun z51 hz511 hz512 => ?_)
          dsimp only [zset, zclr, znone]
          refine zs_goto (tgt := 2) (pc := 54) C dX9_begin_54 (by decide) ?_
          exact zs_wk (ih2 _ _ (by first | omega | (simp only [zuI_1, zuI_2, zuJ_1, zuJ_2, zuJ_3, zuP_1, zuP_2, zuP_3, zuC_1, zuC_2, reduceIte, Nat.reduceEqDiff, false_and, and_false, true_and, and_true, and_self, or_true, true_or, or_false, false_or]; omega)) (by repeat (first | exact zsm_rf | assumption | refine zsm_C (by decide) ?_ | refine zsm_I (by decide) ?_ | refine zsm_J ?_ | refine zsm_c (by assumption) (by decide) ?_)) (by first | omega | (simp only [zuI_1, zuI_2, zuJ_1, zuJ_2, zuJ_3, zuP_1, zuP_2, zuP_3, zuC_1, zuC_2, reduceIte, Nat.reduceEqDiff, false_and, and_false, true_and, and_true, and_self, or_true, true_or, or_false, false_or]; omega))) (zwk_s rfl (zwk_s rfl zwk_0))
        · skip
          refine zs_iload_n (pc := 23) C dX9_begin_23 rfl ?_
          refine zs_iconst (pc := 24) C dX9_begin_24 (by decide) ?_
          first | refine zs_irem (pc := 25) C dX9_begin_25 (by omega) (by omega) (fun hz251 hz252 => ?_) | refine zs_iremF (pc := 25) C dX9_begin_25 (by omega) (fun z25 hz251 hz252 => ?_)
          refine zs_aload_n (pc := 26) C dX9_begin_26 rfl ?_
          refine zs_geti (r := 1012) (pc := 27) C dX9_begin_27 w_X9_258 f_10_12 rfl (r_1012 0) (fun v27 e27 l27 u27 => ?_)
          refine zs_icmp_ge (tgt := 42) (pc := 30) C dX9_begin_30 (by decide) (fun h30 => ?_) (fun h30 => ?_)
          · skip
            refine zs_iconst (pc := 42) C dX9_begin_42 (by decide) ?_
            refine zs_iast (r := 2081) (pc := 43) C dX9_begin_43 a_81 (by decide) (by omega) rfl (r_2081 _) (by omega) ?_
            refine zs_aload_n (pc := 44) C dX9_begin_44 rfl ?_
            refine zs_getf (pc := 45) C dX9_begin_45 w_X9_91 f_10_52 (by decide) ?_
            refine zs_iload_n (pc := 48) C dX9_begin_48 rfl ?_
            refine zs_iconst (pc := 49) C dX9_begin_49 (by decide) ?_
            refine zs_iast (r := 2082) (pc := 50) C dX9_begin_50 a_82 (by decide) (by omega) rfl (r_2082 _) (by omega) ?_
            first | refine zs_iinc (pc := 51) C dX9_begin_51 rfl (by decide) (by omega) ?_ | refine zs_iincF (pc := 51) C dX9_begin_51 rfl (by decide) (fun z51 hz511 hz512 => ?_)
            dsimp only [zset, zclr, znone]
            refine zs_goto (tgt := 2) (pc := 54) C dX9_begin_54 (by decide) ?_
            exact zs_wk (ih2 _ _ (by first | omega | (simp only [zuI_1, zuI_2, zuJ_1, zuJ_2, zuJ_3, zuP_1, zuP_2, zuP_3, zuC_1, zuC_2, reduceIte, Nat.reduceEqDiff, false_and, and_false, true_and, and_true, and_self, or_true, true_or, or_false, false_or]; omega)) (by repeat (first | exact zsm_rf | assumption | refine zsm_C (by decide) ?_ | refine zsm_I (by decide) ?_ | refine zsm_J ?_ | refine zsm_c (by assumption) (by decide) ?_)) (by first | omega | (simp only [zuI_1, zuI_2, zuJ_1, zuJ_2, zuJ_3, zuP_1, zuP_2, zuP_3, zuC_1, zuC_2, reduceIte, Nat.reduceEqDiff, false_and, and_false, true_and, and_true, and_self, or_true, true_or, or_false, false_or]; omega))) (zwk_s rfl (zwk_s rfl zwk_0))
          · skip
            refine zs_aload_n (pc := 33) C dX9_begin_33 rfl ?_
            refine zs_getf (pc := 34) C dX9_begin_34 w_X9_39 f_10_28 (by decide) ?_
            refine zs_iload_n (pc := 37) C dX9_begin_37 rfl ?_
            refine zs_iald (r := 2065) (pc := 38) C dX9_begin_38 a_65 (by decide) (by omega) rfl (r_2065 _) (fun v38 e38 l38 u38 => ?_)
            refine zs_goto (tgt := 43) (pc := 39) C dX9_begin_39 (by decide) ?_
            refine zs_iast (r := 2081) (pc := 43) C dX9_begin_43 a_81 (by decide) (by omega) rfl (r_2081 _) (by omega) ?_
            refine zs_aload_n (pc := 44) C dX9_begin_44 rfl ?_
            refine zs_getf (pc := 45) C dX9_begin_45 w_X9_91 f_10_52 (by decide) ?_
            refine zs_iload_n (pc := 48) C dX9_begin_48 rfl ?_
            refine zs_iconst (pc := 49) C dX9_begin_49 (by decide) ?_
            refine zs_iast (r := 2082) (pc := 50) C dX9_begin_50 a_82 (by decide) (by omega) rfl (r_2082 _) (by omega) ?_
            first | refine zs_iinc (pc := 51) C dX9_begin_51 rfl (by decide) (by omega) ?_ | refine zs_iincF (pc := 51) C dX9_begin_51 rfl (by decide) (fun z51 hz511 hz512 => ?_)
            dsimp only [zset, zclr, znone]
            refine zs_goto (tgt := 2) (pc := 54) C dX9_begin_54 (by decide) ?_
            exact zs_wk (ih2 _ _ (by first | omega | (simp only [zuI_1, zuI_2, zuJ_1, zuJ_2, zuJ_3, zuP_1, zuP_2, zuP_3, zuC_1, zuC_2, reduceIte, Nat.reduceEqDiff, false_and, and_false, true_and, and_true, and_self, or_true, true_or, or_false, false_or]; omega)) (by repeat (first | exact zsm_rf | assumption | refine zsm_C (by decide) ?_ | refine zsm_I (by decide) ?_ | refine zsm_J ?_ | refine zsm_c (by assumption) (by decide) ?_)) (by first | omega | (simp only [zuI_1, zuI_2, zuJ_1, zuJ_2, zuJ_3, zuP_1, zuP_2, zuP_3, zuC_1, zuC_2, reduceIte, Nat.reduceEqDiff, false_and, and_false, true_and, and_true, and_self, or_true, true_or, or_false, false_or]; omega))) (zwk_s rfl (zwk_s rfl zwk_0))
  exact zs_wk (L2 _ _ _ (by first | omega | (simp only [zuI_1, zuI_2, zuJ_1, zuJ_2, zuJ_3, zuP_1, zuP_2, zuP_3, zuC_1, zuC_2, reduceIte, Nat.reduceEqDiff, false_and, and_false, true_and, and_true, and_self, or_true, true_or, or_false, false_or]; omega)) (by repeat (first | exact zsm_rf | assumption | refine zsm_C (by decide) ?_ | refine zsm_I (by decide) ?_ | refine zsm_J ?_ | refine zsm_c (by assumption) (by decide) ?_)) (Nat.lt_succ_self _)) (zwk_s rfl (zwk_s rfl zwk_0))

set_option maxHeartbeats 4000000 in
set_option maxRecDepth 100000 in
theorem c_X9_layTried {l : Launch} {Γ : zΓ} {G : zH} {w : Nat}  (hX : zXs Γ)  : zMet l Γ yX9_layTried cX9_layTried 2 none 0 [zr 10 w] G (zpv (fun G' => zsm [2081, 2082, 2083, 2084, 2085, 2086, 2087, 2088, 2089, 2090, 2093, 2094, 1072, 1073, 1074] G G' ∧ True)) := by
  refine zMet_of RX9 hX (by decide) rfl (Nat.le_of_ble_eq_true rfl) ?_
  intro p e s m args below meth c C hr hlk
  show Z p l e (zrm 0) s m args below meth c Γ 2 0 0 (MQ below (zQc Γ (zpv (fun G' => zsm [2081, 2082, 2083, 2084, 2085, 2086, 2087, 2088, 2089, 2090, 2093, 2094, 1072, 1073, 1074] G G' ∧ True))) args s 0 0 (zA Γ)) 0 [some (zr 10 w), none] [] G
  refine zs_iconst (pc := 0) C dX9_layTried_0 (by decide) ?_
  refine zs_istore_n (pc := 1) C dX9_layTried_1 (by decide) ?_
  dsimp only [zset, zclr, znone]
  have L2 : ∀ (nn : Nat) (x1 : Int) (G1 : zH), (0 ≤ x1 ∧ x1 ≤ 20) → (zsm [2081, 2082, 2083, 2084, 2085, 2086, 2087, 2088, 2089, 2090, 2093, 2094, 1072, 1073, 1074] G G1) → (20 - x1).toNat < nn → Z p l e (zrm 0) s m args below meth c Γ 2 0 0 (MQ below (zQc Γ (zpv (fun G' => zsm [2081, 2082, 2083, 2084, 2085, 2086, 2087, 2088, 2089, 2090, 2093, 2094, 1072, 1073, 1074] G G' ∧ True))) args s 0 0 (zA Γ)) 2 [some (zr 10 w), some (zi x1)] [] G1 := by
    intro nn
    induction nn with
    | zero => intro x1 G1 h2_0 h2_1 hm; exact absurd hm (Nat.not_lt_zero _)
    | succ nn ih2 =>
      intro x1 G1 h2_0 h2_1 hm2
      refine zs_iload_n (pc := 2) C dX9_layTried_2 rfl ?_
      refine zs_bipush (pc := 3) C dX9_layTried_3 (by decide) (by decide) ?_
      refine zs_icmp_ge (tgt := 44) (pc := 5) C dX9_layTried_5 (by decide) (fun h5 => ?_) (fun h5 => ?_)
      · skip
        refine zs_iconst (pc := 44) C dX9_layTried_44 (by decide) ?_
        refine zs_istore_n (pc := 45) C dX9_layTried_45 (by decide) ?_
        dsimp only [zset, zclr, znone]
        have L46 : ∀ (nn : Nat) (x1 : Int) (G2 : zH), (0 ≤ x1 ∧ x1 ≤ 5) → (zsm [2081, 2082, 2083, 2084, 2085, 2086, 2087, 2088, 2089, 2090, 2093, 2094, 1072, 1073, 1074] G G2) → (5 - x1).toNat < nn → Z p l e (zrm 0) s m args below meth c Γ 2 0 0 (MQ below (zQc Γ (zpv (fun G' => zsm [2081, 2082, 2083, 2084, 2085, 2086, 2087, 2088, 2089, 2090, 2093, 2094, 1072, 1073, 1074] G G' ∧ True))) args s 0 0 (zA Γ)) 46 [some (zr 10 w), some (zi x1)] [] G2 := by
          intro nn
          induction nn with
          | zero => intro x1 G2 h46_0 h46_1 hm; exact absurd hm (Nat.not_lt_zero _)
          | succ nn ih46 =>
            intro x1 G2 h46_0 h46_1 hm46
            refine zs_iload_n (pc := 46) C dX9_layTried_46 rfl ?_
            refine zs_iconst (pc := 47) C dX9_layTried_47 (by decide) ?_
            refine zs_icmp_ge (tgt := 113) (pc := 48) C dX9_layTried_48 (by decide) (fun h48 => ?_) (fun h48 => ?_)
            · skip
              refine zs_aload_n (pc := 113) C dX9_layTried_113 rfl ?_
              refine zs_getf (pc := 114) C dX9_layTried_114 w_X9_106 f_10_57 (by decide) ?_
              refine zs_iconst (pc := 117) C dX9_layTried_117 (by decide) ?_
              refine zs_aload_n (pc := 118) C dX9_layTried_118 rfl ?_
              refine zs_getf (pc := 119) C dX9_layTried_119 w_X9_106 f_10_57 (by decide) ?_
              refine zs_iconst (pc := 122) C dX9_layTried_122 (by decide) ?_
              refine zs_iald (r := 2087) (pc := 123) C dX9_layTried_123 a_87 (by decide) (by omega) rfl (r_2087 _) (fun v123 e123 l123 u123 => ?_)
              refine zs_iast (r := 2087) (pc := 124) C dX9_layTried_124 a_87 (by decide) (by omega) rfl (r_2087 _) (by omega) ?_
              refine zs_aload_n (pc := 125) C dX9_layTried_125 rfl ?_
              refine zs_getf (pc := 126) C dX9_layTried_126 w_X9_109 f_10_58 (by decide) ?_
              refine zs_iconst (pc := 129) C dX9_layTried_129 (by decide) ?_
              refine zs_aload_n (pc := 130) C dX9_layTried_130 rfl ?_
              refine zs_getf (pc := 131) C dX9_layTried_131 w_X9_109 f_10_58 (by decide) ?_
              refine zs_iconst (pc := 134) C dX9_layTried_134 (by decide) ?_
              refine zs_iald (r := 2088) (pc := 135) C dX9_layTried_135 a_88 (by decide) (by omega) rfl (r_2088 _) (fun v135 e135 l135 u135 => ?_)
              try simp only [zuI_1, zuI_2, zuJ_1, zuJ_2, zuJ_3, zuP_1, zuP_2, zuP_3, zuC_1, zuC_2, reduceIte, Nat.reduceEqDiff, false_and, and_false, true_and, and_true, and_self, or_true, true_or, or_false, false_or] at e135
              refine zs_iast (r := 2088) (pc := 136) C dX9_layTried_136 a_88 (by decide) (by omega) rfl (r_2088 _) (by omega) ?_
              refine zs_aload_n (pc := 137) C dX9_layTried_137 rfl ?_
              refine zs_getf (pc := 138) C dX9_layTried_138 w_X9_112 f_10_59 (by decide) ?_
              refine zs_iconst (pc := 141) C dX9_layTried_141 (by decide) ?_
              refine zs_aload_n (pc := 142) C dX9_layTried_142 rfl ?_
              refine zs_getf (pc := 143) C dX9_layTried_143 w_X9_112 f_10_59 (by decide) ?_
              refine zs_iconst (pc := 146) C dX9_layTried_146 (by decide) ?_
              refine zs_iald (r := 2089) (pc := 147) C dX9_layTried_147 a_89 (by decide) (by omega) rfl (r_2089 _) (fun v147 e147 l147 u147 => ?_)
              try simp only [zuI_1, zuI_2, zuJ_1, zuJ_2, zuJ_3, zuP_1, zuP_2, zuP_3, zuC_1, zuC_2, reduceIte, Nat.reduceEqDiff, false_and, and_false, true_and, and_true, and_self, or_true, true_or, or_false, false_or] at e147
              refine zs_iast (r := 2089) (pc := 148) C dX9_layTried_148 a_89 (by decide) (by omega) rfl (r_2089 _) (by omega) ?_
              refine zs_aload_n (pc := 149) C dX9_layTried_149 rfl ?_
              refine zs_getf (pc := 150) C dX9_layTried_150 w_X9_115 f_10_60 (by decide) ?_
              refine zs_iconst (pc := 153) C dX9_layTried_153 (by decide) ?_
              refine zs_aload_n (pc := 154) C dX9_layTried_154 rfl ?_
              refine zs_getf (pc := 155) C dX9_layTried_155 w_X9_115 f_10_60 (by decide) ?_
              refine zs_iconst (pc := 158) C dX9_layTried_158 (by decide) ?_
              refine zs_iald (r := 2090) (pc := 159) C dX9_layTried_159 a_90 (by decide) (by omega) rfl (r_2090 _) (fun v159 e159 l159 u159 => ?_)
              try simp only [zuI_1, zuI_2, zuJ_1, zuJ_2, zuJ_3, zuP_1, zuP_2, zuP_3, zuC_1, zuC_2, reduceIte, Nat.reduceEqDiff, false_and, and_false, true_and, and_true, and_self, or_true, true_or, or_false, false_or] at e159
              refine zs_iast (r := 2090) (pc := 160) C dX9_layTried_160 a_90 (by decide) (by omega) rfl (r_2090 _) (by omega) ?_
              refine zs_iconst (pc := 161) C dX9_layTried_161 (by decide) ?_
              refine zs_istore_n (pc := 162) C dX9_layTried_162 (by decide) ?_
              dsimp only [zset, zclr, znone]
              have L163 : ∀ (nn : Nat) (x1 : Int) (G3 : zH), (0 ≤ x1 ∧ x1 ≤ 60) → (zsm [2081, 2082, 2083, 2084, 2085, 2086, 2087, 2088, 2089, 2090, 2093, 2094, 1072, 1073, 1074] G G3) → (60 - x1).toNat < nn → Z p l e (zrm 0) s m args below meth c Γ 2 0 0 (MQ below (zQc Γ (zpv (fun G' => zsm [2081, 2082, 2083, 2084, 2085, 2086, 2087, 2088, 2089, 2090, 2093, 2094, 1072, 1073, 1074] G G' ∧ True))) args s 0 0 (zA Γ)) 163 [some (zr 10 w), some (zi x1)] [] G3 := by
                intro nn
                induction nn with
                | zero => intro x1 G3 h163_0 h163_1 hm; exact absurd hm (Nat.not_lt_zero _)
                | succ nn ih163 =>
                  intro x1 G3 h163_0 h163_1 hm163
                  refine zs_iload_n (pc := 163) C dX9_layTried_163 rfl ?_
                  refine zs_aload_n (pc := 164) C dX9_layTried_164 rfl ?_
                  refine zs_getf (pc := 165) C dX9_layTried_165 w_X9_106 f_10_57 (by decide) ?_
                  refine zs_iconst (pc := 168) C dX9_layTried_168 (by decide) ?_
                  refine zs_iald (r := 2087) (pc := 169) C dX9_layTried_169 a_87 (by decide) (by omega) rfl (r_2087 _) (fun v169 e169 l169 u169 => ?_)
                  refine zs_icmp_ge (tgt := 209) (pc := 170) C dX9_layTried_170 (by decide) (fun h170 => ?_) (fun h170 => ?_)
                  · skip
                    refine zs_aload_n (pc := 209) C dX9_layTried_209 rfl ?_
                    refine zs_iconst (pc := 210) C dX9_layTried_210 (by decide) ?_
                    refine zs_puti (r := 1073) (pc := 211) C dX9_layTried_211 w_X9_388 f_10_73 rfl (r_1073 0) (by omega) ?_
                    refine zs_aload_n (pc := 214) C dX9_layTried_214 rfl ?_
                    refine zs_iconst (pc := 215) C dX9_layTried_215 (by decide) ?_
                    refine zs_puti (r := 1072) (pc := 216) C dX9_layTried_216 w_X9_391 f_10_72 rfl (r_1072 0) (by omega) ?_
                    refine zs_aload_n (pc := 219) C dX9_layTried_219 rfl ?_
                    refine zs_iconst (pc := 220) C dX9_layTried_220 (by decide) ?_
                    refine zs_puti (r := 1074) (pc := 221) C dX9_layTried_221 w_X9_148 f_10_74 rfl (r_1074 0) (by omega) ?_
                    exact zs_vret (pc := 224) C hr hlk dX9_layTried_224 ⟨by repeat (first | exact zsm_rf | assumption | refine zsm_C (by decide) ?_ | refine zsm_I (by decide) ?_ | refine zsm_J ?_ | refine zsm_c (by assumption) (by decide) ?_), trivial⟩
                  · skip
                    refine zs_aload_n (pc := 173) C dX9_layTried_173 rfl ?_
                    refine zs_getf (pc := 174) C dX9_layTried_174 w_X9_124 f_10_64 (by decide) ?_
                    refine zs_bipush (pc := 177) C dX9_layTried_177 (by decide) (by decide) ?_
                    refine zs_iload_n (pc := 179) C dX9_layTried_179 rfl ?_
                    first | refine zs_iadd (pc := 180) C dX9_layTried_180 (by omega) ?_ | refine zs_iaddF (pc := 180) C dX9_layTried_180 (fun z180 hz1801 hz1802 => ?_)
                    refine zs_aload_n (pc := 181) C dX9_layTried_181 rfl ?_
                    refine zs_getf (pc := 182) C dX9_layTried_182 w_X9_124 f_10_64 (by decide) ?_
                    refine zs_iload_n (pc := 185) C dX9_layTried_185 rfl ?_
                    refine zs_iald (r := 2093) (pc := 186) C dX9_layTried_186 a_93 (by decide) (by omega) rfl (r_2093 _) (fun v186 e186 l186 u186 => ?_)
                    refine zs_iast (r := 2093) (pc := 187) C dX9_layTried_187 a_93 (by decide) (by omega) rfl (r_2093 _) (by omega) ?_
                    refine zs_aload_n (pc := 188) C dX9_layTried_188 rfl ?_
                    refine zs_getf (pc := 189) C dX9_layTried_189 w_X9_127 f_10_65 (by decide) ?_
                    refine zs_bipush (pc := 192) C dX9_layTried_192 (by decide) (by decide) ?_
                    refine zs_iload_n (pc := 194) C dX9_layTried_194 rfl ?_
                    first | refine zs_iadd (pc := 195) C dX9_layTried_195 (by omega) ?_ | refine zs_iaddF (pc := 195) C dX9_layTried_195 (fun z195 hz1951 hz1952 => ?_)
                    refine zs_aload_n (pc := 196) C dX9_layTried_196 rfl ?_
                    refine zs_getf (pc := 197) C dX9_layTried_197 w_X9_127 f_10_65 (by decide) ?_
                    refine zs_iload_n (pc := 200) C dX9_layTried_200 rfl ?_
                    refine zs_iald (r := 2094) (pc := 201) C dX9_layTried_201 a_94 (by decide) (by omega) rfl (r_2094 _) (fun v201 e201 l201 u201 => ?_)
                    try simp only [zuI_1, zuI_2, zuJ_1, zuJ_2, zuJ_3, zuP_1, zuP_2, zuP_3, zuC_1, zuC_2, reduceIte, Nat.reduceEqDiff, false_and, and_false, true_and, and_true, and_self, or_true, true_or, or_false, false_or] at e201
                    refine zs_iast (r := 2094) (pc := 202) C dX9_layTried_202 a_94 (by decide) (by omega) rfl (r_2094 _) (by omega) ?_
                    first | refine zs_iinc (pc := 203) C dX9_layTried_203 rfl (by decide) (by omega) ?_ | refine zs_iincF (pc := 203) C dX9_layTried_203 rfl (by decide) (fun z203 hz2031 hz2032 => ?_)
                    dsimp only [zset, zclr, znone]
                    refine zs_goto (tgt := 163) (pc := 206) C dX9_layTried_206 (by decide) ?_
                    exact zs_wk (ih163 _ _ (by first | omega | (simp only [zuI_1, zuI_2, zuJ_1, zuJ_2, zuJ_3, zuP_1, zuP_2, zuP_3, zuC_1, zuC_2, reduceIte, Nat.reduceEqDiff, false_and, and_false, true_and, and_true, and_self, or_true, true_or, or_false, false_or]; omega)) (by repeat (first | exact zsm_rf | assumption | refine zsm_C (by decide) ?_ | refine zsm_I (by decide) ?_ | refine zsm_J ?_ | refine zsm_c (by assumption) (by decide) ?_)) (by first | omega | (simp only [zuI_1, zuI_2, zuJ_1, zuJ_2, zuJ_3, zuP_1, zuP_2, zuP_3, zuC_1, zuC_2, reduceIte, Nat.reduceEqDiff, false_and, and_false, true_and, and_true, and_self, or_true, true_or, or_false, false_or]; omega))) (zwk_s rfl (zwk_s rfl zwk_0))
              exact zs_wk (L163 _ _ _ (by first | omega | (simp only [zuI_1, zuI_2, zuJ_1, zuJ_2, zuJ_3, zuP_1, zuP_2, zuP_3, zuC_1, zuC_2, reduceIte, Nat.reduceEqDiff, false_and, and_false, true_and, and_true, and_self, or_true, true_or, or_false, false_or]; omega)) (by repeat (first | exact zsm_rf | assumption | refine zsm_C (by decide) ?_ | refine zsm_I (by decide) ?_ | refine zsm_J ?_ | refine zsm_c (by assumption) (by decide) ?_)) (Nat.lt_succ_self _)) (zwk_s rfl (zwk_s rfl zwk_0))
            · skip
              refine zs_aload_n (pc := 51) C dX9_layTried_51 rfl ?_
              refine zs_getf (pc := 52) C dX9_layTried_52 w_X9_94 f_10_53 (by decide) ?_
              refine zs_iconst (pc := 55) C dX9_layTried_55 (by decide) ?_
              refine zs_iload_n (pc := 56) C dX9_layTried_56 rfl ?_
              first | refine zs_iadd (pc := 57) C dX9_layTried_57 (by omega) ?_ | refine zs_iaddF (pc := 57) C dX9_layTried_57 (fun z57 hz571 hz572 => ?_)
              refine zs_aload_n (pc := 58) C dX9_layTried_58 rfl ?_
              refine zs_getf (pc := 59) C dX9_layTried_59 w_X9_94 f_10_53 (by decide) ?_
              refine zs_iload_n (pc := 62) C dX9_layTried_62 rfl ?_
              refine zs_iald (r := 2083) (pc := 63) C dX9_layTried_63 a_83 (by decide) (by omega) rfl (r_2083 _) (fun v63 e63 l63 u63 => ?_)
              refine zs_iast (r := 2083) (pc := 64) C dX9_layTried_64 a_83 (by decide) (by omega) rfl (r_2083 _) (by omega) ?_
              refine zs_aload_n (pc := 65) C dX9_layTried_65 rfl ?_
              refine zs_getf (pc := 66) C dX9_layTried_66 w_X9_97 f_10_54 (by decide) ?_
              refine zs_iconst (pc := 69) C dX9_layTried_69 (by decide) ?_
              refine zs_iload_n (pc := 70) C dX9_layTried_70 rfl ?_
              first | refine zs_iadd (pc := 71) C dX9_layTried_71 (by omega) ?_ | refine zs_iaddF (pc := 71) C dX9_layTried_71 (fun z71 hz711 hz712 => ?_)
              refine zs_aload_n (pc := 72) C dX9_layTried_72 rfl ?_
              refine zs_getf (pc := 73) C dX9_layTried_73 w_X9_97 f_10_54 (by decide) ?_
              refine zs_iload_n (pc := 76) C dX9_layTried_76 rfl ?_
              refine zs_iald (r := 2084) (pc := 77) C dX9_layTried_77 a_84 (by decide) (by omega) rfl (r_2084 _) (fun v77 e77 l77 u77 => ?_)
              try simp only [zuI_1, zuI_2, zuJ_1, zuJ_2, zuJ_3, zuP_1, zuP_2, zuP_3, zuC_1, zuC_2, reduceIte, Nat.reduceEqDiff, false_and, and_false, true_and, and_true, and_self, or_true, true_or, or_false, false_or] at e77
              refine zs_iast (r := 2084) (pc := 78) C dX9_layTried_78 a_84 (by decide) (by omega) rfl (r_2084 _) (by omega) ?_
              refine zs_aload_n (pc := 79) C dX9_layTried_79 rfl ?_
              refine zs_getf (pc := 80) C dX9_layTried_80 w_X9_100 f_10_55 (by decide) ?_
              refine zs_iconst (pc := 83) C dX9_layTried_83 (by decide) ?_
              refine zs_iload_n (pc := 84) C dX9_layTried_84 rfl ?_
              first | refine zs_iadd (pc := 85) C dX9_layTried_85 (by omega) ?_ | refine zs_iaddF (pc := 85) C dX9_layTried_85 (fun z85 hz851 hz852 => ?_)
              refine zs_aload_n (pc := 86) C dX9_layTried_86 rfl ?_
              refine zs_getf (pc := 87) C dX9_layTried_87 w_X9_100 f_10_55 (by decide) ?_
              refine zs_iload_n (pc := 90) C dX9_layTried_90 rfl ?_
              refine zs_iald (r := 2085) (pc := 91) C dX9_layTried_91 a_85 (by decide) (by omega) rfl (r_2085 _) (fun v91 e91 l91 u91 => ?_)
              try simp only [zuI_1, zuI_2, zuJ_1, zuJ_2, zuJ_3, zuP_1, zuP_2, zuP_3, zuC_1, zuC_2, reduceIte, Nat.reduceEqDiff, false_and, and_false, true_and, and_true, and_self, or_true, true_or, or_false, false_or] at e91
              refine zs_iast (r := 2085) (pc := 92) C dX9_layTried_92 a_85 (by decide) (by omega) rfl (r_2085 _) (by omega) ?_
              refine zs_aload_n (pc := 93) C dX9_layTried_93 rfl ?_
              refine zs_getf (pc := 94) C dX9_layTried_94 w_X9_103 f_10_56 (by decide) ?_
              refine zs_iconst (pc := 97) C dX9_layTried_97 (by decide) ?_
              refine zs_iload_n (pc := 98) C dX9_layTried_98 rfl ?_
              first | refine zs_iadd (pc := 99) C dX9_layTried_99 (by omega) ?_ | refine zs_iaddF (pc := 99) C dX9_layTried_99 (fun z99 hz991 hz992 => ?_)
              refine zs_aload_n (pc := 100) C dX9_layTried_100 rfl ?_
              refine zs_getf (pc := 101) C dX9_layTried_101 w_X9_103 f_10_56 (by decide) ?_
              refine zs_iload_n (pc := 104) C dX9_layTried_104 rfl ?_
              refine zs_iald (r := 2086) (pc := 105) C dX9_layTried_105 a_86 (by decide) (by omega) rfl (r_2086 _) (fun v105 e105 l105 u105 => ?_)
              try simp only [zuI_1, zuI_2, zuJ_1, zuJ_2, zuJ_3, zuP_1, zuP_2, zuP_3, zuC_1, zuC_2, reduceIte, Nat.reduceEqDiff, false_and, and_false, true_and, and_true, and_self, or_true, true_or, or_false, false_or] at e105
              refine zs_iast (r := 2086) (pc := 106) C dX9_layTried_106 a_86 (by decide) (by omega) rfl (r_2086 _) (by omega) ?_
              first | refine zs_iinc (pc := 107) C dX9_layTried_107 rfl (by decide) (by omega) ?_ | refine zs_iincF (pc := 107) C dX9_layTried_107 rfl (by decide) (fun z107 hz1071 hz1072 => ?_)
              dsimp only [zset, zclr, znone]
              refine zs_goto (tgt := 46) (pc := 110) C dX9_layTried_110 (by decide) ?_
              exact zs_wk (ih46 _ _ (by first | omega | (simp only [zuI_1, zuI_2, zuJ_1, zuJ_2, zuJ_3, zuP_1, zuP_2, zuP_3, zuC_1, zuC_2, reduceIte, Nat.reduceEqDiff, false_and, and_false, true_and, and_true, and_self, or_true, true_or, or_false, false_or]; omega)) (by repeat (first | exact zsm_rf | assumption | refine zsm_C (by decide) ?_ | refine zsm_I (by decide) ?_ | refine zsm_J ?_ | refine zsm_c (by assumption) (by decide) ?_)) (by first | omega | (simp only [zuI_1, zuI_2, zuJ_1, zuJ_2, zuJ_3, zuP_1, zuP_2, zuP_3, zuC_1, zuC_2, reduceIte, Nat.reduceEqDiff, false_and, and_false, true_and, and_true, and_self, or_true, true_or, or_false, false_or]; omega))) (zwk_s rfl (zwk_s rfl zwk_0))
        exact zs_wk (L46 _ _ _ (by first | omega | (simp only [zuI_1, zuI_2, zuJ_1, zuJ_2, zuJ_3, zuP_1, zuP_2, zuP_3, zuC_1, zuC_2, reduceIte, Nat.reduceEqDiff, false_and, and_false, true_and, and_true, and_self, or_true, true_or, or_false, false_or]; omega)) (by repeat (first | exact zsm_rf | assumption | refine zsm_C (by decide) ?_ | refine zsm_I (by decide) ?_ | refine zsm_J ?_ | refine zsm_c (by assumption) (by decide) ?_)) (Nat.lt_succ_self _)) (zwk_s rfl (zwk_s rfl zwk_0))
      · skip
        refine zs_aload_n (pc := 8) C dX9_layTried_8 rfl ?_
        refine zs_getf (pc := 9) C dX9_layTried_9 w_X9_88 f_10_51 (by decide) ?_
        refine zs_bipush (pc := 12) C dX9_layTried_12 (by decide) (by decide) ?_
        refine zs_iload_n (pc := 14) C dX9_layTried_14 rfl ?_
        first | refine zs_iadd (pc := 15) C dX9_layTried_15 (by omega) ?_ | refine zs_iaddF (pc := 15) C dX9_layTried_15 (fun z15 hz151 hz152 => ?_)
        refine zs_aload_n (pc := 16) C dX9_layTried_16 rfl ?_
        refine zs_getf (pc := 17) C dX9_layTried_17 w_X9_88 f_10_51 (by decide) ?_
        refine zs_iload_n (pc := 20) C dX9_layTried_20 rfl ?_
        refine zs_iald (r := 2081) (pc := 21) C dX9_layTried_21 a_81 (by decide) (by omega) rfl (r_2081 _) (fun v21 e21 l21 u21 => ?_)
        refine zs_iast (r := 2081) (pc := 22) C dX9_layTried_22 a_81 (by decide) (by omega) rfl (r_2081 _) (by omega) ?_
        refine zs_aload_n (pc := 23) C dX9_layTried_23 rfl ?_
        refine zs_getf (pc := 24) C dX9_layTried_24 w_X9_91 f_10_52 (by decide) ?_
        refine zs_bipush (pc := 27) C dX9_layTried_27 (by decide) (by decide) ?_
        refine zs_iload_n (pc := 29) C dX9_layTried_29 rfl ?_
        first | refine zs_iadd (pc := 30) C dX9_layTried_30 (by omega) ?_ | refine zs_iaddF (pc := 30) C dX9_layTried_30 (fun z30 hz301 hz302 => ?_)
        refine zs_aload_n (pc := 31) C dX9_layTried_31 rfl ?_
        refine zs_getf (pc := 32) C dX9_layTried_32 w_X9_91 f_10_52 (by decide) ?_
        refine zs_iload_n (pc := 35) C dX9_layTried_35 rfl ?_
        refine zs_iald (r := 2082) (pc := 36) C dX9_layTried_36 a_82 (by decide) (by omega) rfl (r_2082 _) (fun v36 e36 l36 u36 => ?_)
        try simp only [zuI_1, zuI_2, zuJ_1, zuJ_2, zuJ_3, zuP_1, zuP_2, zuP_3, zuC_1, zuC_2, reduceIte, Nat.reduceEqDiff, false_and, and_false, true_and, and_true, and_self, or_true, true_or, or_false, false_or] at e36
        refine zs_iast (r := 2082) (pc := 37) C dX9_layTried_37 a_82 (by decide) (by omega) rfl (r_2082 _) (by omega) ?_
        first | refine zs_iinc (pc := 38) C dX9_layTried_38 rfl (by decide) (by omega) ?_ | refine zs_iincF (pc := 38) C dX9_layTried_38 rfl (by decide) (fun z38 hz381 hz382 => ?_)
        dsimp only [zset, zclr, znone]
        refine zs_goto (tgt := 2) (pc := 41) C dX9_layTried_41 (by decide) ?_
        exact zs_wk (ih2 _ _ (by first | omega | (simp only [zuI_1, zuI_2, zuJ_1, zuJ_2, zuJ_3, zuP_1, zuP_2, zuP_3, zuC_1, zuC_2, reduceIte, Nat.reduceEqDiff, false_and, and_false, true_and, and_true, and_self, or_true, true_or, or_false, false_or]; omega)) (by repeat (first | exact zsm_rf | assumption | refine zsm_C (by decide) ?_ | refine zsm_I (by decide) ?_ | refine zsm_J ?_ | refine zsm_c (by assumption) (by decide) ?_)) (by first | omega | (simp only [zuI_1, zuI_2, zuJ_1, zuJ_2, zuJ_3, zuP_1, zuP_2, zuP_3, zuC_1, zuC_2, reduceIte, Nat.reduceEqDiff, false_and, and_false, true_and, and_true, and_self, or_true, true_or, or_false, false_or]; omega))) (zwk_s rfl (zwk_s rfl zwk_0))
  exact zs_wk (L2 _ _ _ (by first | omega | (simp only [zuI_1, zuI_2, zuJ_1, zuJ_2, zuJ_3, zuP_1, zuP_2, zuP_3, zuC_1, zuC_2, reduceIte, Nat.reduceEqDiff, false_and, and_false, true_and, and_true, and_self, or_true, true_or, or_false, false_or]; omega)) (by repeat (first | exact zsm_rf | assumption | refine zsm_C (by decide) ?_ | refine zsm_I (by decide) ?_ | refine zsm_J ?_ | refine zsm_c (by assumption) (by decide) ?_)) (Nat.lt_succ_self _)) (zwk_s rfl (zwk_s rfl zwk_0))
