set_option maxHeartbeats 4000000 in
set_option maxRecDepth 100000 in
theorem c_X6_packed {l : Launch} {Γ : zΓ} {G : zH} {a b : Int} (hX : zXs Γ)  : zMet l Γ yX6_packed cX6_packed 2 (some .int) 0 [zi a, zi b] G (zpi (fun x G' => G' = G ∧ True)) := by
  refine zMet_of RX6 hX (by decide) rfl (Nat.le_of_ble_eq_true rfl) ?_
  intro p e s m args below meth c C hr hlk
  show Z p l e (zrm 0) s m args below meth c Γ 2 0 0 (MQ below (zQc Γ (zpi (fun x G' => G' = G ∧ True))) args s 0 0 (zA Γ)) 0 [some (zi a), some (zi b)] [] G
  refine zs_loc 0 rfl (fun ha0 hb0 => ?_)
  refine zs_loc 1 rfl (fun ha1 hb1 => ?_)
  refine zs_iload_n (pc := 0) C dX6_packed_0 rfl ?_
  refine zs_bipush (pc := 1) C dX6_packed_1 (by decide) (by decide) ?_
  refine zs_icmp_ge (tgt := 22) (pc := 3) C dX6_packed_3 (by decide) (fun h3 => ?_) (fun h3 => ?_)
  · skip
    refine zs_iconst (pc := 22) C dX6_packed_22 (by decide) ?_
    exact zs_iret (pc := 23) C hr hlk dX6_packed_23 ⟨rfl, trivial⟩
  · skip
    refine zs_iload_n (pc := 6) C dX6_packed_6 rfl ?_
    refine zs_bipush (pc := 7) C dX6_packed_7 (by decide) (by decide) ?_
    first | refine zs_isub (pc := 9) C dX6_packed_9 (by omega) ?_ | refine zs_isubF (pc := 9) C dX6_packed_9 (fun z9 hz91 hz92 => ?_)
    refine zs_iconst (pc := 10) C dX6_packed_10 (by decide) ?_
    first | refine zs_iadd (pc := 11) C dX6_packed_11 (by omega) ?_ | refine zs_iaddF (pc := 11) C dX6_packed_11 (fun z11 hz111 hz112 => ?_)
    refine zs_bipush (pc := 12) C dX6_packed_12 (by decide) (by decide) ?_
    refine zs_iconst (pc := 14) C dX6_packed_14 (by decide) ?_
    refine zs_iload_n (pc := 15) C dX6_packed_15 rfl ?_
    first | refine zs_imul (pc := 16) C dX6_packed_16 (by omega) ?_ | refine zs_imulF (pc := 16) C dX6_packed_16 (fun z16 hz161 hz162 => ?_)
    first | refine zs_isub (pc := 17) C dX6_packed_17 (by omega) ?_ | refine zs_isubF (pc := 17) C dX6_packed_17 (fun z17 hz171 hz172 => ?_)
    refine zs_ishlF (pc := 18) C dX6_packed_18 (fun z18 hz181 hz182 => ?_)
    refine zs_goto (tgt := 23) (pc := 19) C dX6_packed_19 (by decide) ?_
    exact zs_iret (pc := 23) C hr hlk dX6_packed_23 ⟨rfl, trivial⟩

set_option maxHeartbeats 4000000 in
set_option maxRecDepth 100000 in
theorem c_X6_isLetter {l : Launch} {Γ : zΓ} {G : zH} {a : Int} (hX : zXs Γ)  : zMet l Γ yX6_isLetter cX6_isLetter 1 (some .boolean) 0 [zi a] G (zpi (fun x G' => G' = G ∧ (x = 0 ∨ x = 1))) := by
  refine zMet_of RX6 hX (by decide) rfl (Nat.le_of_ble_eq_true rfl) ?_
  intro p e s m args below meth c C hr hlk
  show Z p l e (zrm 0) s m args below meth c Γ 1 0 0 (MQ below (zQc Γ (zpi (fun x G' => G' = G ∧ (x = 0 ∨ x = 1)))) args s 0 0 (zA Γ)) 0 [some (zi a)] [] G
  refine zs_loc 0 rfl (fun ha0 hb0 => ?_)
  refine zs_iload_n (pc := 0) C dX6_isLetter_0 rfl ?_
  refine zs_bipush (pc := 1) C dX6_isLetter_1 (by decide) (by decide) ?_
  refine zs_icmp_lt (tgt := 16) (pc := 3) C dX6_isLetter_3 (by decide) (fun h3 => ?_) (fun h3 => ?_)
  · skip
    refine zs_iconst (pc := 16) C dX6_isLetter_16 (by decide) ?_
    exact zs_zret (pc := 17) C hr hlk dX6_isLetter_17 (by omega) ⟨rfl, by first | omega | (simp only [zuI_1, zuI_2, zuJ_1, zuJ_2, zuJ_3, zuP_1, zuP_2, zuP_3, zuC_1, zuC_2, reduceIte, Nat.reduceEqDiff, false_and, and_false, true_and, and_true, and_self, or_true, true_or, or_false, false_or]; omega)⟩
  · skip
    refine zs_iload_n (pc := 6) C dX6_isLetter_6 rfl ?_
    refine zs_bipush (pc := 7) C dX6_isLetter_7 (by decide) (by decide) ?_
    refine zs_icmp_gt (tgt := 16) (pc := 9) C dX6_isLetter_9 (by decide) (fun h9 => ?_) (fun h9 => ?_)
    · skip
      refine zs_iconst (pc := 16) C dX6_isLetter_16 (by decide) ?_
      exact zs_zret (pc := 17) C hr hlk dX6_isLetter_17 (by omega) ⟨rfl, by first | omega | (simp only [zuI_1, zuI_2, zuJ_1, zuJ_2, zuJ_3, zuP_1, zuP_2, zuP_3, zuC_1, zuC_2, reduceIte, Nat.reduceEqDiff, false_and, and_false, true_and, and_true, and_self, or_true, true_or, or_false, false_or]; omega)⟩
    · skip
      refine zs_iconst (pc := 12) C dX6_isLetter_12 (by decide) ?_
      refine zs_goto (tgt := 17) (pc := 13) C dX6_isLetter_13 (by decide) ?_
      exact zs_zret (pc := 17) C hr hlk dX6_isLetter_17 (by omega) ⟨rfl, by first | omega | (simp only [zuI_1, zuI_2, zuJ_1, zuJ_2, zuJ_3, zuP_1, zuP_2, zuP_3, zuC_1, zuC_2, reduceIte, Nat.reduceEqDiff, false_and, and_false, true_and, and_true, and_self, or_true, true_or, or_false, false_or]; omega)⟩

set_option maxHeartbeats 4000000 in
set_option maxRecDepth 100000 in
theorem c_X6_isDigit {l : Launch} {Γ : zΓ} {G : zH} {a : Int} (hX : zXs Γ)  : zMet l Γ yX6_isDigit cX6_isDigit 1 (some .boolean) 0 [zi a] G (zpi (fun x G' => G' = G ∧ (x = 0 ∨ x = 1))) := by
  refine zMet_of RX6 hX (by decide) rfl (Nat.le_of_ble_eq_true rfl) ?_
  intro p e s m args below meth c C hr hlk
  show Z p l e (zrm 0) s m args below meth c Γ 1 0 0 (MQ below (zQc Γ (zpi (fun x G' => G' = G ∧ (x = 0 ∨ x = 1)))) args s 0 0 (zA Γ)) 0 [some (zi a)] [] G
  refine zs_loc 0 rfl (fun ha0 hb0 => ?_)
  refine zs_iload_n (pc := 0) C dX6_isDigit_0 rfl ?_
  refine zs_bipush (pc := 1) C dX6_isDigit_1 (by decide) (by decide) ?_
  refine zs_icmp_lt (tgt := 16) (pc := 3) C dX6_isDigit_3 (by decide) (fun h3 => ?_) (fun h3 => ?_)
  · skip
    refine zs_iconst (pc := 16) C dX6_isDigit_16 (by decide) ?_
    exact zs_zret (pc := 17) C hr hlk dX6_isDigit_17 (by omega) ⟨rfl, by first | omega | (simp only [zuI_1, zuI_2, zuJ_1, zuJ_2, zuJ_3, zuP_1, zuP_2, zuP_3, zuC_1, zuC_2, reduceIte, Nat.reduceEqDiff, false_and, and_false, true_and, and_true, and_self, or_true, true_or, or_false, false_or]; omega)⟩
  · skip
    refine zs_iload_n (pc := 6) C dX6_isDigit_6 rfl ?_
    refine zs_bipush (pc := 7) C dX6_isDigit_7 (by decide) (by decide) ?_
    refine zs_icmp_gt (tgt := 16) (pc := 9) C dX6_isDigit_9 (by decide) (fun h9 => ?_) (fun h9 => ?_)
    · skip
      refine zs_iconst (pc := 16) C dX6_isDigit_16 (by decide) ?_
      exact zs_zret (pc := 17) C hr hlk dX6_isDigit_17 (by omega) ⟨rfl, by first | omega | (simp only [zuI_1, zuI_2, zuJ_1, zuJ_2, zuJ_3, zuP_1, zuP_2, zuP_3, zuC_1, zuC_2, reduceIte, Nat.reduceEqDiff, false_and, and_false, true_and, and_true, and_self, or_true, true_or, or_false, false_or]; omega)⟩
    · skip
      refine zs_iconst (pc := 12) C dX6_isDigit_12 (by decide) ?_
      refine zs_goto (tgt := 17) (pc := 13) C dX6_isDigit_13 (by decide) ?_
      exact zs_zret (pc := 17) C hr hlk dX6_isDigit_17 (by omega) ⟨rfl, by first | omega | (simp only [zuI_1, zuI_2, zuJ_1, zuJ_2, zuJ_3, zuP_1, zuP_2, zuP_3, zuC_1, zuC_2, reduceIte, Nat.reduceEqDiff, false_and, and_false, true_and, and_true, and_self, or_true, true_or, or_false, false_or]; omega)⟩

set_option maxHeartbeats 4000000 in
set_option maxRecDepth 100000 in
theorem c_X6_add {l : Launch} {Γ : zΓ} {G : zH} {w : Nat} {a b : Int} (hX : zXs Γ)  : zMet l Γ yX6_add cX6_add 3 none 0 [zr 7 w, zi a, zi b] G (zpv (fun G' => zsm [704, 2045, 2047] G G' ∧ ((G.1 704 w 0 ≤ 700 → G'.1 704 w 0 = G.1 704 w 0 + 1) ∧ (¬ G.1 704 w 0 ≤ 700 → G'.1 704 w 0 = G.1 704 w 0)))) := by
  refine zMet_of RX6 hX (by decide) rfl (Nat.le_of_ble_eq_true rfl) ?_
  intro p e s m args below meth c C hr hlk
  show Z p l e (zrm 0) s m args below meth c Γ 3 0 0 (MQ below (zQc Γ (zpv (fun G' => zsm [704, 2045, 2047] G G' ∧ ((G.1 704 w 0 ≤ 700 → G'.1 704 w 0 = G.1 704 w 0 + 1) ∧ (¬ G.1 704 w 0 ≤ 700 → G'.1 704 w 0 = G.1 704 w 0))))) args s 0 0 (zA Γ)) 0 [some (zr 7 w), some (zi a), some (zi b)] [] G
  refine zs_loc 1 rfl (fun ha1 hb1 => ?_)
  refine zs_loc 2 rfl (fun ha2 hb2 => ?_)
  refine zs_aload_n (pc := 0) C dX6_add_0 rfl ?_
  refine zs_geti (r := 704) (pc := 1) C dX6_add_1 w_X6_57 f_7_4 rfl (r_704 0) (fun v1 e1 l1 u1 => ?_)
  refine zs_sipush (pc := 4) C dX6_add_4 (by decide) (by decide) ?_
  refine zs_icmp_gt (tgt := 40) (pc := 7) C dX6_add_7 (by decide) (fun h7 => ?_) (fun h7 => ?_)
  · skip
    exact zs_vret (pc := 40) C hr hlk dX6_add_40 ⟨by repeat (first | exact zsm_rf | assumption | refine zsm_C (by decide) ?_ | refine zsm_I (by decide) ?_ | refine zsm_J ?_ | refine zsm_c (by assumption) (by decide) ?_), by first | omega | (simp only [zuI_1, zuI_2, zuJ_1, zuJ_2, zuJ_3, zuP_1, zuP_2, zuP_3, zuC_1, zuC_2, reduceIte, Nat.reduceEqDiff, false_and, and_false, true_and, and_true, and_self, or_true, true_or, or_false, false_or]; omega)⟩
  · skip
    refine zs_aload_n (pc := 10) C dX6_add_10 rfl ?_
    refine zs_getf (pc := 11) C dX6_add_11 w_X6_15 f_7_1 (by decide) ?_
    refine zs_aload_n (pc := 14) C dX6_add_14 rfl ?_
    refine zs_geti (r := 704) (pc := 15) C dX6_add_15 w_X6_57 f_7_4 rfl (r_704 0) (fun v15 e15 l15 u15 => ?_)
    refine zs_iload_n (pc := 18) C dX6_add_18 rfl ?_
    refine zs_iast (r := 2045) (pc := 19) C dX6_add_19 a_45 (by decide) (by omega) rfl (r_2045 _) (by omega) ?_
    refine zs_aload_n (pc := 20) C dX6_add_20 rfl ?_
    refine zs_getf (pc := 21) C dX6_add_21 w_X6_21 f_7_3 (by decide) ?_
    refine zs_aload_n (pc := 24) C dX6_add_24 rfl ?_
    refine zs_geti (r := 704) (pc := 25) C dX6_add_25 w_X6_57 f_7_4 rfl (r_704 0) (fun v25 e25 l25 u25 => ?_)
    try simp only [zuI_1, zuI_2, zuJ_1, zuJ_2, zuJ_3, zuP_1, zuP_2, zuP_3, zuC_1, zuC_2, reduceIte, Nat.reduceEqDiff, false_and, and_false, true_and, and_true, and_self, or_true, true_or, or_false, false_or] at e25
    refine zs_iload_n (pc := 28) C dX6_add_28 rfl ?_
    refine zs_iast (r := 2047) (pc := 29) C dX6_add_29 a_47 (by decide) (by omega) rfl (r_2047 _) (by omega) ?_
    refine zs_aload_n (pc := 30) C dX6_add_30 rfl ?_
    refine zs_dupa (pc := 31) C dX6_add_31 ?_
    refine zs_geti (r := 704) (pc := 32) C dX6_add_32 w_X6_57 f_7_4 rfl (r_704 0) (fun v32 e32 l32 u32 => ?_)
    try simp only [zuI_1, zuI_2, zuJ_1, zuJ_2, zuJ_3, zuP_1, zuP_2, zuP_3, zuC_1, zuC_2, reduceIte, Nat.reduceEqDiff, false_and, and_false, true_and, and_true, and_self, or_true, true_or, or_false, false_or] at e32
    refine zs_iconst (pc := 35) C dX6_add_35 (by decide) ?_
    first | refine zs_iadd (pc := 36) C dX6_add_36 (by omega) ?_ | refine zs_iaddF (pc := 36) C dX6_add_36 (fun z36 hz361 hz362 => ?_)
    refine zs_puti (r := 704) (pc := 37) C dX6_add_37 w_X6_57 f_7_4 rfl (r_704 0) (by omega) ?_
    exact zs_vret (pc := 40) C hr hlk dX6_add_40 ⟨by repeat (first | exact zsm_rf | assumption | refine zsm_C (by decide) ?_ | refine zsm_I (by decide) ?_ | refine zsm_J ?_ | refine zsm_c (by assumption) (by decide) ?_), by first | omega | (simp only [zuI_1, zuI_2, zuJ_1, zuJ_2, zuJ_3, zuP_1, zuP_2, zuP_3, zuC_1, zuC_2, reduceIte, Nat.reduceEqDiff, false_and, and_false, true_and, and_true, and_self, or_true, true_or, or_false, false_or]; omega)⟩

set_option maxHeartbeats 4000000 in
set_option maxRecDepth 100000 in
theorem c_X6_readWord {l : Launch} {Γ : zΓ} {G : zH} {w b : Nat} (hX : zXs Γ)  : zMet l Γ yX6_readWord cX6_readWord 5 none 1 [zr 7 w, zr 55 b] G (zpv (fun G' => zsm [704, 706, 2045, 2047] G G' ∧ (G'.1 704 w 0 ≤ G.1 704 w 0 + 1))) := by
  refine zMet_of RX6 hX (by decide) rfl (Nat.le_of_ble_eq_true rfl) ?_
  intro p e s m args below meth c C hr hlk
  show Z p l e (zrm 1) s m args below meth c Γ 5 0 0 (MQ below (zQc Γ (zpv (fun G' => zsm [704, 706, 2045, 2047] G G' ∧ (G'.1 704 w 0 ≤ G.1 704 w 0 + 1)))) args s 0 0 (zA Γ)) 0 [some (zr 7 w), some (zr 55 b), none, none, none] [] G
  refine zs_aload_n (pc := 0) C dX6_readWord_0 rfl ?_
  refine zs_geti (r := 706) (pc := 1) C dX6_readWord_1 w_X6_60 f_7_6 rfl (r_706 0) (fun v1 e1 l1 u1 => ?_)
  refine zs_istore_n (pc := 4) C dX6_readWord_4 (by decide) ?_
  dsimp only [zset, zclr, znone]
  refine zs_iconst (pc := 5) C dX6_readWord_5 (by decide) ?_
  refine zs_istore_n (pc := 6) C dX6_readWord_6 (by decide) ?_
  dsimp only [zset, zclr, znone]
  have L7 : ∀ (nn : Nat) (x2 x3 : Int) (G1 : zH), (0 ≤ x2 ∧ x2 ≤ 701) → (G1.1 704 w 0 = G.1 704 w 0) → (zsm [706] G G1) → (701 - G1.1 706 w 0).toNat < nn → Z p l e (zrm 1) s m args below meth c Γ 5 0 0 (MQ below (zQc Γ (zpv (fun G' => zsm [704, 706, 2045, 2047] G G' ∧ (G'.1 704 w 0 ≤ G.1 704 w 0 + 1)))) args s 0 0 (zA Γ)) 7 [some (zr 7 w), some (zr 55 b), some (zi x2), some (zi x3), none] [] G1 := by
    intro nn
    induction nn with
    | zero => intro x2 x3 G1 h7_0 h7_1 h7_2 hm; exact absurd hm (Nat.not_lt_zero _)
    | succ nn ih7 =>
      intro x2 x3 G1 h7_0 h7_1 h7_2 hm7
      refine zs_aload_n (pc := 7) C dX6_readWord_7 rfl ?_
      refine zs_geti (r := 706) (pc := 8) C dX6_readWord_8 w_X6_60 f_7_6 rfl (r_706 0) (fun v8 e8 l8 u8 => ?_)
      refine zs_aload_n (pc := 11) C dX6_readWord_11 rfl ?_
      refine zs_geti (r := 705) (pc := 12) C dX6_readWord_12 w_X6_54 f_7_5 rfl (r_705 0) (fun v12 e12 l12 u12 => ?_)
      refine zs_icmp_ge (tgt := 61) (pc := 15) C dX6_readWord_15 (by decide) (fun h15 => ?_) (fun h15 => ?_)
      · skip
        refine zs_aload_n (pc := 61) C dX6_readWord_61 rfl ?_
        refine zs_geti (r := 706) (pc := 62) C dX6_readWord_62 w_X6_60 f_7_6 rfl (r_706 0) (fun v62 e62 l62 u62 => ?_)
        refine zs_iload_n (pc := 65) C dX6_readWord_65 rfl ?_
        first | refine zs_isub (pc := 66) C dX6_readWord_66 (by omega) ?_ | refine zs_isubF (pc := 66) C dX6_readWord_66 (fun z66 hz661 hz662 => ?_)
        refine zs_bipush (pc := 67) C dX6_readWord_67 (by decide) (by decide) ?_
        refine zs_icmp_le (tgt := 79) (pc := 69) C dX6_readWord_69 (by decide) (fun h69 => ?_) (fun h69 => ?_)
        · skip
          refine zs_iconst (pc := 79) C dX6_readWord_79 (by decide) ?_
          refine zs_istore (pc := 80) C dX6_readWord_80 (by decide) ?_
          dsimp only [zset, zclr, znone]
          have L82 : ∀ (nn : Nat) (x4 : Int), (0 ≤ x4 ∧ x4 ≤ 24) → (24 - x4).toNat < nn → Z p l e (zrm 1) s m args below meth c Γ 5 0 0 (MQ below (zQc Γ (zpv (fun G' => zsm [704, 706, 2045, 2047] G G' ∧ (G'.1 704 w 0 ≤ G.1 704 w 0 + 1)))) args s 0 0 (zA Γ)) 82 [some (zr 7 w), some (zr 55 b), some (zi x2), some (zi x3), some (zi x4)] [] G1 := by
            intro nn
            induction nn with
            | zero => intro x4 h82_0 hm; exact absurd hm (Nat.not_lt_zero _)
            | succ nn ih82 =>
              intro x4 h82_0 hm82
              refine zs_iload (pc := 82) C dX6_readWord_82 rfl ?_
              refine zs_bipush (pc := 84) C dX6_readWord_84 (by decide) (by decide) ?_
              refine zs_icmp_ge (tgt := 114) (pc := 86) C dX6_readWord_86 (by decide) (fun h86 => ?_) (fun h86 => ?_)
              · skip
                refine zs_aload_n (pc := 114) C dX6_readWord_114 rfl ?_
                refine zs_iconst (pc := 115) C dX6_readWord_115 (by decide) ?_
                refine zs_iload_n (pc := 116) C dX6_readWord_116 rfl ?_
                refine zVv2 (pc := 117) C dX6_readWord_117 v_X6_81 (c_X6_add hX ) (by decide) (by decide) ⟨Nat.zero_le _, Nat.zero_le _⟩ (Nat.le_of_ble_eq_true rfl) (fun G117 hp117 => ?_)
                obtain ⟨hz117, hq117⟩ := hp117
                exact zs_vret (pc := 120) C hr hlk dX6_readWord_120 ⟨by repeat (first | exact zsm_rf | assumption | refine zsm_C (by decide) ?_ | refine zsm_I (by decide) ?_ | refine zsm_J ?_ | refine zsm_c (by assumption) (by decide) ?_), by first | omega | (simp only [zuI_1, zuI_2, zuJ_1, zuJ_2, zuJ_3, zuP_1, zuP_2, zuP_3, zuC_1, zuC_2, reduceIte, Nat.reduceEqDiff, false_and, and_false, true_and, and_true, and_self, or_true, true_or, or_false, false_or]; omega)⟩
              · skip
                refine zs_aload_n (pc := 89) C dX6_readWord_89 rfl ?_
                refine zs_getf (pc := 90) C dX6_readWord_90 w_X6_11 f_7_0 (by decide) ?_
                refine zs_iload (pc := 93) C dX6_readWord_93 rfl ?_
                refine zs_iald (r := 2044) (pc := 95) C dX6_readWord_95 a_44 (by decide) (by omega) rfl (r_2044 _) (fun v95 e95 l95 u95 => ?_)
                refine zs_iload_n (pc := 96) C dX6_readWord_96 rfl ?_
                refine zs_icmp_ne (tgt := 108) (pc := 97) C dX6_readWord_97 (by decide) (fun h97 => ?_) (fun h97 => ?_)
                · skip
                  first | refine zs_iinc (pc := 108) C dX6_readWord_108 rfl (by decide) (by omega) ?_ | refine zs_iincF (pc := 108) C dX6_readWord_108 rfl (by decide) (fun z108 hz1081 hz1082 => ?_)
                  dsimp only [zset, zclr, znone]
                  refine zs_goto (tgt := 82) (pc := 111) C dX6_readWord_111 (by decide) ?_
                  exact zs_wk (ih82 _ (by first | omega | (simp only [zuI_1, zuI_2, zuJ_1, zuJ_2, zuJ_3, zuP_1, zuP_2, zuP_3, zuC_1, zuC_2, reduceIte, Nat.reduceEqDiff, false_and, and_false, true_and, and_true, and_self, or_true, true_or, or_false, false_or]; omega)) (by first | omega | (simp only [zuI_1, zuI_2, zuJ_1, zuJ_2, zuJ_3, zuP_1, zuP_2, zuP_3, zuC_1, zuC_2, reduceIte, Nat.reduceEqDiff, false_and, and_false, true_and, and_true, and_self, or_true, true_or, or_false, false_or]; omega))) (zwk_s rfl (zwk_s rfl (zwk_s rfl (zwk_s rfl (zwk_s rfl zwk_0)))))
                · skip
                  refine zs_aload_n (pc := 100) C dX6_readWord_100 rfl ?_
                  refine zs_iconst (pc := 101) C dX6_readWord_101 (by decide) ?_
                  refine zs_iload (pc := 102) C dX6_readWord_102 rfl ?_
                  refine zVv2 (pc := 104) C dX6_readWord_104 v_X6_81 (c_X6_add hX ) (by decide) (by decide) ⟨Nat.zero_le _, Nat.zero_le _⟩ (Nat.le_of_ble_eq_true rfl) (fun G104 hp104 => ?_)
                  obtain ⟨hz104, hq104⟩ := hp104
                  exact zs_vret (pc := 107) C hr hlk dX6_readWord_107 ⟨by repeat (first | exact zsm_rf | assumption | refine zsm_C (by decide) ?_ | refine zsm_I (by decide) ?_ | refine zsm_J ?_ | refine zsm_c (by assumption) (by decide) ?_), by first | omega | (simp only [zuI_1, zuI_2, zuJ_1, zuJ_2, zuJ_3, zuP_1, zuP_2, zuP_3, zuC_1, zuC_2, reduceIte, Nat.reduceEqDiff, false_and, and_false, true_and, and_true, and_self, or_true, true_or, or_false, false_or]; omega)⟩
          exact zs_wk (L82 _ _ (by first | omega | (simp only [zuI_1, zuI_2, zuJ_1, zuJ_2, zuJ_3, zuP_1, zuP_2, zuP_3, zuC_1, zuC_2, reduceIte, Nat.reduceEqDiff, false_and, and_false, true_and, and_true, and_self, or_true, true_or, or_false, false_or]; omega)) (Nat.lt_succ_self _)) (zwk_s rfl (zwk_s rfl (zwk_s rfl (zwk_s rfl (zwk_s rfl zwk_0)))))
        · skip
          refine zs_aload_n (pc := 72) C dX6_readWord_72 rfl ?_
          refine zs_iconst (pc := 73) C dX6_readWord_73 (by decide) ?_
          refine zs_iconst (pc := 74) C dX6_readWord_74 (by decide) ?_
          refine zVv2 (pc := 75) C dX6_readWord_75 v_X6_81 (c_X6_add hX ) (by decide) (by decide) ⟨Nat.zero_le _, Nat.zero_le _⟩ (Nat.le_of_ble_eq_true rfl) (fun G75 hp75 => ?_)
          obtain ⟨hz75, hq75⟩ := hp75
          exact zs_vret (pc := 78) C hr hlk dX6_readWord_78 ⟨by repeat (first | exact zsm_rf | assumption | refine zsm_C (by decide) ?_ | refine zsm_I (by decide) ?_ | refine zsm_J ?_ | refine zsm_c (by assumption) (by decide) ?_), by first | omega | (simp only [zuI_1, zuI_2, zuJ_1, zuJ_2, zuJ_3, zuP_1, zuP_2, zuP_3, zuC_1, zuC_2, reduceIte, Nat.reduceEqDiff, false_and, and_false, true_and, and_true, and_self, or_true, true_or, or_false, false_or]; omega)⟩
      · skip
        refine zs_aload_n (pc := 18) C dX6_readWord_18 rfl ?_
        refine zs_aload_n (pc := 19) C dX6_readWord_19 rfl ?_
        refine zs_geti (r := 706) (pc := 20) C dX6_readWord_20 w_X6_60 f_7_6 rfl (r_706 0) (fun v20 e20 l20 u20 => ?_)
        refine zs_iald (r := 2055) (pc := 23) C dX6_readWord_23 a_55 (by decide) (by omega) rfl (r_2055 _) (fun v23 e23 l23 u23 => ?_)
        refine zSip1 (pc := 24) C dX6_readWord_24 s_X6_63 (c_X6_isLetter hX ) (by decide) ⟨Nat.zero_le _, Nat.zero_le _⟩ (Nat.le_of_ble_eq_true rfl) (fun x24 l24 u24 hp24 => ?_)
        have hq24 := hp24
        refine zs_if_eq (tgt := 61) (pc := 27) C dX6_readWord_27 (by decide) (fun h27 => ?_) (fun h27 => ?_)
        · skip
          refine zs_aload_n (pc := 61) C dX6_readWord_61 rfl ?_
          refine zs_geti (r := 706) (pc := 62) C dX6_readWord_62 w_X6_60 f_7_6 rfl (r_706 0) (fun v62 e62 l62 u62 => ?_)
          refine zs_iload_n (pc := 65) C dX6_readWord_65 rfl ?_
          first | refine zs_isub (pc := 66) C dX6_readWord_66 (by omega) ?_ | refine zs_isubF (pc := 66) C dX6_readWord_66 (fun z66 hz661 hz662 => ?_)
          refine zs_bipush (pc := 67) C dX6_readWord_67 (by decide) (by decide) ?_
          refine zs_icmp_le (tgt := 79) (pc := 69) C dX6_readWord_69 (by decide) (fun h69 => ?_) (fun h69 => ?_)
          · skip
            refine zs_iconst (pc := 79) C dX6_readWord_79 (by decide) ?_
            refine zs_istore (pc := 80) C dX6_readWord_80 (by decide) ?_
            dsimp only [zset, zclr, znone]
            have L82 : ∀ (nn : Nat) (x4 : Int), (0 ≤ x4 ∧ x4 ≤ 24) → (24 - x4).toNat < nn → Z p l e (zrm 1) s m args below meth c Γ 5 0 0 (MQ below (zQc Γ (zpv (fun G' => zsm [704, 706, 2045, 2047] G G' ∧ (G'.1 704 w 0 ≤ G.1 704 w 0 + 1)))) args s 0 0 (zA Γ)) 82 [some (zr 7 w), some (zr 55 b), some (zi x2), some (zi x3), some (zi x4)] [] G1 := by
              intro nn
              induction nn with
              | zero => intro x4 h82_0 hm; exact absurd hm (Nat.not_lt_zero _)
              | succ nn ih82 =>
                intro x4 h82_0 hm82
                refine zs_iload (pc := 82) C dX6_readWord_82 rfl ?_
                refine zs_bipush (pc := 84) C dX6_readWord_84 (by decide) (by decide) ?_
                refine zs_icmp_ge (tgt := 114) (pc := 86) C dX6_readWord_86 (by decide) (fun h86 => ?_) (fun h86 => ?_)
                · skip
                  refine zs_aload_n (pc := 114) C dX6_readWord_114 rfl ?_
                  refine zs_iconst (pc := 115) C dX6_readWord_115 (by decide) ?_
                  refine zs_iload_n (pc := 116) C dX6_readWord_116 rfl ?_
                  refine zVv2 (pc := 117) C dX6_readWord_117 v_X6_81 (c_X6_add hX ) (by decide) (by decide) ⟨Nat.zero_le _, Nat.zero_le _⟩ (Nat.le_of_ble_eq_true rfl) (fun G117 hp117 => ?_)
                  obtain ⟨hz117, hq117⟩ := hp117
                  exact zs_vret (pc := 120) C hr hlk dX6_readWord_120 ⟨by repeat (first | exact zsm_rf | assumption | refine zsm_C (by decide) ?_ | refine zsm_I (by decide) ?_ | refine zsm_J ?_ | refine zsm_c (by assumption) (by decide) ?_), by first | omega | (simp only [zuI_1, zuI_2, zuJ_1, zuJ_2, zuJ_3, zuP_1, zuP_2, zuP_3, zuC_1, zuC_2, reduceIte, Nat.reduceEqDiff, false_and, and_false, true_and, and_true, and_self, or_true, true_or, or_false, false_or]; omega)⟩
                · skip
                  refine zs_aload_n (pc := 89) C dX6_readWord_89 rfl ?_
                  refine zs_getf (pc := 90) C dX6_readWord_90 w_X6_11 f_7_0 (by decide) ?_
                  refine zs_iload (pc := 93) C dX6_readWord_93 rfl ?_
                  refine zs_iald (r := 2044) (pc := 95) C dX6_readWord_95 a_44 (by decide) (by omega) rfl (r_2044 _) (fun v95 e95 l95 u95 => ?_)
                  refine zs_iload_n (pc := 96) C dX6_readWord_96 rfl ?_
                  refine zs_icmp_ne (tgt := 108) (pc := 97) C dX6_readWord_97 (by decide) (fun h97 => ?_) (fun h97 => ?_)
                  · skip
                    first | refine zs_iinc (pc := 108) C dX6_readWord_108 rfl (by decide) (by omega) ?_ | refine zs_iincF (pc := 108) C dX6_readWord_108 rfl (by decide) (fun z108 hz1081 hz1082 => ?_)
                    dsimp only [zset, zclr, znone]
                    refine zs_goto (tgt := 82) (pc := 111) C dX6_readWord_111 (by decide) ?_
                    exact zs_wk (ih82 _ (by first | omega | (simp only [zuI_1, zuI_2, zuJ_1, zuJ_2, zuJ_3, zuP_1, zuP_2, zuP_3, zuC_1, zuC_2, reduceIte, Nat.reduceEqDiff, false_and, and_false, true_and, and_true, and_self, or_true, true_or, or_false, false_or]; omega)) (by first | omega | (simp only [zuI_1, zuI_2, zuJ_1, zuJ_2, zuJ_3, zuP_1, zuP_2, zuP_3, zuC_1, zuC_2, reduceIte, Nat.reduceEqDiff, false_and, and_false, true_and, and_true, and_self, or_true, true_or, or_false, false_or]; omega))) (zwk_s rfl (zwk_s rfl (zwk_s rfl (zwk_s rfl (zwk_s rfl zwk_0)))))
                  · skip
                    refine zs_aload_n (pc := 100) C dX6_readWord_100 rfl ?_
                    refine zs_iconst (pc := 101) C dX6_readWord_101 (by decide) ?_
                    refine zs_iload (pc := 102) C dX6_readWord_102 rfl ?_
                    refine zVv2 (pc := 104) C dX6_readWord_104 v_X6_81 (c_X6_add hX ) (by decide) (by decide) ⟨Nat.zero_le _, Nat.zero_le _⟩ (Nat.le_of_ble_eq_true rfl) (fun G104 hp104 => ?_)
                    obtain ⟨hz104, hq104⟩ := hp104
                    exact zs_vret (pc := 107) C hr hlk dX6_readWord_107 ⟨by repeat (first | exact zsm_rf | assumption | refine zsm_C (by decide) ?_ | refine zsm_I (by decide) ?_ | refine zsm_J ?_ | refine zsm_c (by assumption) (by decide) ?_), by first | omega | (simp only [zuI_1, zuI_2, zuJ_1, zuJ_2, zuJ_3, zuP_1, zuP_2, zuP_3, zuC_1, zuC_2, reduceIte, Nat.reduceEqDiff, false_and, and_false, true_and, and_true, and_self, or_true, true_or, or_false, false_or]; omega)⟩
            exact zs_wk (L82 _ _ (by first | omega | (simp only [zuI_1, zuI_2, zuJ_1, zuJ_2, zuJ_3, zuP_1, zuP_2, zuP_3, zuC_1, zuC_2, reduceIte, Nat.reduceEqDiff, false_and, and_false, true_and, and_true, and_self, or_true, true_or, or_false, false_or]; omega)) (Nat.lt_succ_self _)) (zwk_s rfl (zwk_s rfl (zwk_s rfl (zwk_s rfl (zwk_s rfl zwk_0)))))
          · skip
            refine zs_aload_n (pc := 72) C dX6_readWord_72 rfl ?_
            refine zs_iconst (pc := 73) C dX6_readWord_73 (by decide) ?_
            refine zs_iconst (pc := 74) C dX6_readWord_74 (by decide) ?_
            refine zVv2 (pc := 75) C dX6_readWord_75 v_X6_81 (c_X6_add hX ) (by decide) (by decide) ⟨Nat.zero_le _, Nat.zero_le _⟩ (Nat.le_of_ble_eq_true rfl) (fun G75 hp75 => ?_)
            obtain ⟨hz75, hq75⟩ := hp75
            exact zs_vret (pc := 78) C hr hlk dX6_readWord_78 ⟨by repeat (first | exact zsm_rf | assumption | refine zsm_C (by decide) ?_ | refine zsm_I (by decide) ?_ | refine zsm_J ?_ | refine zsm_c (by assumption) (by decide) ?_), by first | omega | (simp only [zuI_1, zuI_2, zuJ_1, zuJ_2, zuJ_3, zuP_1, zuP_2, zuP_3, zuC_1, zuC_2, reduceIte, Nat.reduceEqDiff, false_and, and_false, true_and, and_true, and_self, or_true, true_or, or_false, false_or]; omega)⟩
        · skip
          refine zs_iload_n (pc := 30) C dX6_readWord_30 rfl ?_
          refine zs_aload_n (pc := 31) C dX6_readWord_31 rfl ?_
          refine zs_aload_n (pc := 32) C dX6_readWord_32 rfl ?_
          refine zs_geti (r := 706) (pc := 33) C dX6_readWord_33 w_X6_60 f_7_6 rfl (r_706 0) (fun v33 e33 l33 u33 => ?_)
          refine zs_iald (r := 2055) (pc := 36) C dX6_readWord_36 a_55 (by decide) (by omega) rfl (r_2055 _) (fun v36 e36 l36 u36 => ?_)
          refine zs_aload_n (pc := 37) C dX6_readWord_37 rfl ?_
          refine zs_geti (r := 706) (pc := 38) C dX6_readWord_38 w_X6_60 f_7_6 rfl (r_706 0) (fun v38 e38 l38 u38 => ?_)
          refine zs_iload_n (pc := 41) C dX6_readWord_41 rfl ?_
          first | refine zs_isub (pc := 42) C dX6_readWord_42 (by omega) ?_ | refine zs_isubF (pc := 42) C dX6_readWord_42 (fun z42 hz421 hz422 => ?_)
          refine zSip2 (pc := 43) C dX6_readWord_43 s_X6_42 (c_X6_packed hX ) (by decide) ⟨Nat.zero_le _, Nat.zero_le _⟩ (Nat.le_of_ble_eq_true rfl) (fun x43 l43 u43 hp43 => ?_)
          have hq43 := hp43
          refine zs_iorF (pc := 46) C dX6_readWord_46 (fun z46 hz461 hz462 => ?_)
          refine zs_istore_n (pc := 47) C dX6_readWord_47 (by decide) ?_
          dsimp only [zset, zclr, znone]
          refine zs_aload_n (pc := 48) C dX6_readWord_48 rfl ?_
          refine zs_dupa (pc := 49) C dX6_readWord_49 ?_
          refine zs_geti (r := 706) (pc := 50) C dX6_readWord_50 w_X6_60 f_7_6 rfl (r_706 0) (fun v50 e50 l50 u50 => ?_)
          refine zs_iconst (pc := 53) C dX6_readWord_53 (by decide) ?_
          first | refine zs_iadd (pc := 54) C dX6_readWord_54 (by omega) ?_ | refine zs_iaddF (pc := 54) C dX6_readWord_54 (fun z54 hz541 hz542 => ?_)
          refine zs_puti (r := 706) (pc := 55) C dX6_readWord_55 w_X6_60 f_7_6 rfl (r_706 0) (by omega) ?_
          refine zs_goto (tgt := 7) (pc := 58) C dX6_readWord_58 (by decide) ?_
          exact zs_wk (ih7 _ _ _ (by first | omega | (simp only [zuI_1, zuI_2, zuJ_1, zuJ_2, zuJ_3, zuP_1, zuP_2, zuP_3, zuC_1, zuC_2, reduceIte, Nat.reduceEqDiff, false_and, and_false, true_and, and_true, and_self, or_true, true_or, or_false, false_or]; omega)) (by first | omega | (simp only [zuI_1, zuI_2, zuJ_1, zuJ_2, zuJ_3, zuP_1, zuP_2, zuP_3, zuC_1, zuC_2, reduceIte, Nat.reduceEqDiff, false_and, and_false, true_and, and_true, and_self, or_true, true_or, or_false, false_or]; omega)) (by repeat (first | exact zsm_rf | assumption | refine zsm_C (by decide) ?_ | refine zsm_I (by decide) ?_ | refine zsm_J ?_ | refine zsm_c (by assumption) (by decide) ?_)) (by first | omega | (simp only [zuI_1, zuI_2, zuJ_1, zuJ_2, zuJ_3, zuP_1, zuP_2, zuP_3, zuC_1, zuC_2, reduceIte, Nat.reduceEqDiff, false_and, and_false, true_and, and_true, and_self, or_true, true_or, or_false, false_or]; omega))) (zwk_s rfl (zwk_s rfl (zwk_s rfl (zwk_s rfl (zwk_n zwk_0)))))
  exact zs_wk (L7 _ _ _ _ (by first | omega | (simp only [zuI_1, zuI_2, zuJ_1, zuJ_2, zuJ_3, zuP_1, zuP_2, zuP_3, zuC_1, zuC_2, reduceIte, Nat.reduceEqDiff, false_and, and_false, true_and, and_true, and_self, or_true, true_or, or_false, false_or]; omega)) (by first | omega | (simp only [zuI_1, zuI_2, zuJ_1, zuJ_2, zuJ_3, zuP_1, zuP_2, zuP_3, zuC_1, zuC_2, reduceIte, Nat.reduceEqDiff, false_and, and_false, true_and, and_true, and_self, or_true, true_or, or_false, false_or]; omega)) (by repeat (first | exact zsm_rf | assumption | refine zsm_C (by decide) ?_ | refine zsm_I (by decide) ?_ | refine zsm_J ?_ | refine zsm_c (by assumption) (by decide) ?_)) (Nat.lt_succ_self _)) (zwk_s rfl (zwk_s rfl (zwk_s rfl (zwk_s rfl (zwk_n zwk_0)))))

set_option maxHeartbeats 4000000 in
set_option maxRecDepth 100000 in
theorem c_X6_readDigits {l : Launch} {Γ : zΓ} {G : zH} {w b : Nat} (hX : zXs Γ)  : zMet l Γ yX6_readDigits cX6_readDigits 3 none 1 [zr 7 w, zr 55 b] G (zpv (fun G' => zsm [704, 706, 2045, 2047] G G' ∧ (G'.1 704 w 0 ≤ G.1 704 w 0 + 1))) := by
  refine zMet_of RX6 hX (by decide) rfl (Nat.le_of_ble_eq_true rfl) ?_
  intro p e s m args below meth c C hr hlk
  show Z p l e (zrm 1) s m args below meth c Γ 3 0 0 (MQ below (zQc Γ (zpv (fun G' => zsm [704, 706, 2045, 2047] G G' ∧ (G'.1 704 w 0 ≤ G.1 704 w 0 + 1)))) args s 0 0 (zA Γ)) 0 [some (zr 7 w), some (zr 55 b), none] [] G
  refine zs_iconst (pc := 0) C dX6_readDigits_0 (by decide) ?_
  refine zs_istore_n (pc := 1) C dX6_readDigits_1 (by decide) ?_
  dsimp only [zset, zclr, znone]
  have L2 : ∀ (nn : Nat) (x2 : Int) (G1 : zH), (G1.1 704 w 0 = G.1 704 w 0) → (zsm [706] G G1) → (701 - G1.1 706 w 0).toNat < nn → Z p l e (zrm 1) s m args below meth c Γ 3 0 0 (MQ below (zQc Γ (zpv (fun G' => zsm [704, 706, 2045, 2047] G G' ∧ (G'.1 704 w 0 ≤ G.1 704 w 0 + 1)))) args s 0 0 (zA Γ)) 2 [some (zr 7 w), some (zr 55 b), some (zi x2)] [] G1 := by
    intro nn
    induction nn with
    | zero => intro x2 G1 h2_0 h2_1 hm; exact absurd hm (Nat.not_lt_zero _)
    | succ nn ih2 =>
      intro x2 G1 h2_0 h2_1 hm2
      refine zs_aload_n (pc := 2) C dX6_readDigits_2 rfl ?_
      refine zs_geti (r := 706) (pc := 3) C dX6_readDigits_3 w_X6_60 f_7_6 rfl (r_706 0) (fun v3 e3 l3 u3 => ?_)
      refine zs_aload_n (pc := 6) C dX6_readDigits_6 rfl ?_
      refine zs_geti (r := 705) (pc := 7) C dX6_readDigits_7 w_X6_54 f_7_5 rfl (r_705 0) (fun v7 e7 l7 u7 => ?_)
      refine zs_icmp_ge (tgt := 58) (pc := 10) C dX6_readDigits_10 (by decide) (fun h10 => ?_) (fun h10 => ?_)
      · skip
        refine zs_aload_n (pc := 58) C dX6_readDigits_58 rfl ?_
        refine zs_iconst (pc := 59) C dX6_readDigits_59 (by decide) ?_
        refine zs_iload_n (pc := 60) C dX6_readDigits_60 rfl ?_
        refine zVv2 (pc := 61) C dX6_readDigits_61 v_X6_81 (c_X6_add hX ) (by decide) (by decide) ⟨Nat.zero_le _, Nat.zero_le _⟩ (Nat.le_of_ble_eq_true rfl) (fun G61 hp61 => ?_)
        obtain ⟨hz61, hq61⟩ := hp61
        exact zs_vret (pc := 64) C hr hlk dX6_readDigits_64 ⟨by repeat (first | exact zsm_rf | assumption | refine zsm_C (by decide) ?_ | refine zsm_I (by decide) ?_ | refine zsm_J ?_ | refine zsm_c (by assumption) (by decide) ?_), by first | omega | (simp only [zuI_1, zuI_2, zuJ_1, zuJ_2, zuJ_3, zuP_1, zuP_2, zuP_3, zuC_1, zuC_2, reduceIte, Nat.reduceEqDiff, false_and, and_false, true_and, and_true, and_self, or_true, true_or, or_false, false_or]; omega)⟩
      · skip
        refine zs_aload_n (pc := 13) C dX6_readDigits_13 rfl ?_
        refine zs_aload_n (pc := 14) C dX6_readDigits_14 rfl ?_
        refine zs_geti (r := 706) (pc := 15) C dX6_readDigits_15 w_X6_60 f_7_6 rfl (r_706 0) (fun v15 e15 l15 u15 => ?_)
        refine zs_iald (r := 2055) (pc := 18) C dX6_readDigits_18 a_55 (by decide) (by omega) rfl (r_2055 _) (fun v18 e18 l18 u18 => ?_)
        refine zSip1 (pc := 19) C dX6_readDigits_19 s_X6_71 (c_X6_isDigit hX ) (by decide) ⟨Nat.zero_le _, Nat.zero_le _⟩ (Nat.le_of_ble_eq_true rfl) (fun x19 l19 u19 hp19 => ?_)
        have hq19 := hp19
        refine zs_if_eq (tgt := 58) (pc := 22) C dX6_readDigits_22 (by decide) (fun h22 => ?_) (fun h22 => ?_)
        · skip
          refine zs_aload_n (pc := 58) C dX6_readDigits_58 rfl ?_
          refine zs_iconst (pc := 59) C dX6_readDigits_59 (by decide) ?_
          refine zs_iload_n (pc := 60) C dX6_readDigits_60 rfl ?_
          refine zVv2 (pc := 61) C dX6_readDigits_61 v_X6_81 (c_X6_add hX ) (by decide) (by decide) ⟨Nat.zero_le _, Nat.zero_le _⟩ (Nat.le_of_ble_eq_true rfl) (fun G61 hp61 => ?_)
          obtain ⟨hz61, hq61⟩ := hp61
          exact zs_vret (pc := 64) C hr hlk dX6_readDigits_64 ⟨by repeat (first | exact zsm_rf | assumption | refine zsm_C (by decide) ?_ | refine zsm_I (by decide) ?_ | refine zsm_J ?_ | refine zsm_c (by assumption) (by decide) ?_), by first | omega | (simp only [zuI_1, zuI_2, zuJ_1, zuJ_2, zuJ_3, zuP_1, zuP_2, zuP_3, zuC_1, zuC_2, reduceIte, Nat.reduceEqDiff, false_and, and_false, true_and, and_true, and_self, or_true, true_or, or_false, false_or]; omega)⟩
        · skip
          refine zs_ldc (n := 1000000) (pc := 25) C dX6_readDigits_25 q_X6_84 (by decide) (by decide) ?_
          refine zs_iload_n (pc := 27) C dX6_readDigits_27 rfl ?_
          refine zs_bipush (pc := 28) C dX6_readDigits_28 (by decide) (by decide) ?_
          first | refine zs_imul (pc := 30) C dX6_readDigits_30 (by omega) ?_ | refine zs_imulF (pc := 30) C dX6_readDigits_30 (fun z30 hz301 hz302 => ?_)
          refine zs_aload_n (pc := 31) C dX6_readDigits_31 rfl ?_
          refine zs_aload_n (pc := 32) C dX6_readDigits_32 rfl ?_
          refine zs_geti (r := 706) (pc := 33) C dX6_readDigits_33 w_X6_60 f_7_6 rfl (r_706 0) (fun v33 e33 l33 u33 => ?_)
          refine zs_iald (r := 2055) (pc := 36) C dX6_readDigits_36 a_55 (by decide) (by omega) rfl (r_2055 _) (fun v36 e36 l36 u36 => ?_)
          first | refine zs_iadd (pc := 37) C dX6_readDigits_37 (by omega) ?_ | refine zs_iaddF (pc := 37) C dX6_readDigits_37 (fun z37 hz371 hz372 => ?_)
          refine zs_bipush (pc := 38) C dX6_readDigits_38 (by decide) (by decide) ?_
          first | refine zs_isub (pc := 40) C dX6_readDigits_40 (by omega) ?_ | refine zs_isubF (pc := 40) C dX6_readDigits_40 (fun z40 hz401 hz402 => ?_)
          refine zs_minI (pc := 41) C dX6_readDigits_41 s_X6_46 (by decide) (Nat.le_of_ble_eq_true rfl) ⟨Nat.zero_le _, Nat.zero_le _⟩ (fun z41 hz41 => ?_)
          refine zs_istore_n (pc := 44) C dX6_readDigits_44 (by decide) ?_
          dsimp only [zset, zclr, znone]
          refine zs_aload_n (pc := 45) C dX6_readDigits_45 rfl ?_
          refine zs_dupa (pc := 46) C dX6_readDigits_46 ?_
          refine zs_geti (r := 706) (pc := 47) C dX6_readDigits_47 w_X6_60 f_7_6 rfl (r_706 0) (fun v47 e47 l47 u47 => ?_)
          refine zs_iconst (pc := 50) C dX6_readDigits_50 (by decide) ?_
          first | refine zs_iadd (pc := 51) C dX6_readDigits_51 (by omega) ?_ | refine zs_iaddF (pc := 51) C dX6_readDigits_51 (fun z51 hz511 hz512 => ?_)
          refine zs_puti (r := 706) (pc := 52) C dX6_readDigits_52 w_X6_60 f_7_6 rfl (r_706 0) (by omega) ?_
          refine zs_goto (tgt := 2) (pc := 55) C dX6_readDigits_55 (by decide) ?_
          exact zs_wk (ih2 _ _ (by first | omega | (simp only [zuI_1, zuI_2, zuJ_1, zuJ_2, zuJ_3, zuP_1, zuP_2, zuP_3, zuC_1, zuC_2, reduceIte, Nat.reduceEqDiff, false_and, and_false, true_and, and_true, and_self, or_true, true_or, or_false, false_or]; omega)) (by repeat (first | exact zsm_rf | assumption | refine zsm_C (by decide) ?_ | refine zsm_I (by decide) ?_ | refine zsm_J ?_ | refine zsm_c (by assumption) (by decide) ?_)) (by first | omega | (simp only [zuI_1, zuI_2, zuJ_1, zuJ_2, zuJ_3, zuP_1, zuP_2, zuP_3, zuC_1, zuC_2, reduceIte, Nat.reduceEqDiff, false_and, and_false, true_and, and_true, and_self, or_true, true_or, or_false, false_or]; omega))) (zwk_s rfl (zwk_s rfl (zwk_s rfl zwk_0)))
  exact zs_wk (L2 _ _ _ (by first | omega | (simp only [zuI_1, zuI_2, zuJ_1, zuJ_2, zuJ_3, zuP_1, zuP_2, zuP_3, zuC_1, zuC_2, reduceIte, Nat.reduceEqDiff, false_and, and_false, true_and, and_true, and_self, or_true, true_or, or_false, false_or]; omega)) (by repeat (first | exact zsm_rf | assumption | refine zsm_C (by decide) ?_ | refine zsm_I (by decide) ?_ | refine zsm_J ?_ | refine zsm_c (by assumption) (by decide) ?_)) (Nat.lt_succ_self _)) (zwk_s rfl (zwk_s rfl (zwk_s rfl zwk_0)))

set_option maxHeartbeats 4000000 in
set_option maxRecDepth 100000 in
theorem c_X6_readSign {l : Launch} {Γ : zΓ} {G : zH} {w : Nat} {a b : Int} (hX : zXs Γ) (hat : G.1 706 w 0 ≤ 700) : zMet l Γ yX6_readSign cX6_readSign 3 none 1 [zr 7 w, zi a, zi b] G (zpv (fun G' => zsm [704, 706, 2045, 2047] G G' ∧ (G'.1 704 w 0 ≤ G.1 704 w 0 + 1))) := by
  refine zMet_of RX6 hX (by decide) rfl (Nat.le_of_ble_eq_true rfl) ?_
  intro p e s m args below meth c C hr hlk
  show Z p l e (zrm 1) s m args below meth c Γ 3 0 0 (MQ below (zQc Γ (zpv (fun G' => zsm [704, 706, 2045, 2047] G G' ∧ (G'.1 704 w 0 ≤ G.1 704 w 0 + 1)))) args s 0 0 (zA Γ)) 0 [some (zr 7 w), some (zi a), some (zi b)] [] G
  refine zs_loc 1 rfl (fun ha1 hb1 => ?_)
  refine zs_loc 2 rfl (fun ha2 hb2 => ?_)
  refine zs_iload_n (pc := 0) C dX6_readSign_0 rfl ?_
  refine zs_name (fun y1 ey1 => ?_)
  rcases (show y1 = 40 ∨ y1 = 41 ∨ y1 = 42 ∨ y1 = 43 ∨ y1 = 44 ∨ y1 = 45 ∨ y1 = 46 ∨ y1 = 47 ∨ y1 = 48 ∨ y1 = 49 ∨ y1 = 50 ∨ y1 = 51 ∨ y1 = 52 ∨ y1 = 53 ∨ y1 = 54 ∨ y1 = 55 ∨ y1 = 56 ∨ y1 = 57 ∨ y1 = 58 ∨ y1 = 59 ∨ y1 = 60 ∨ y1 = 61 ∨ y1 = 62 ∨ (y1 < 40 ∨ 62 < y1) by omega) with h1 | h1 | h1 | h1 | h1 | h1 | h1 | h1 | h1 | h1 | h1 | h1 | h1 | h1 | h1 | h1 | h1 | h1 | h1 | h1 | h1 | h1 | h1 | h1
  · skip
    refine zs_tabIn (pc := 1) (tgt := 118) C 40 dX6_readSign_1 h1 (by decide) rfl (by decide) ?_
    refine zs_aload_n (pc := 118) C dX6_readSign_118 rfl ?_
    refine zs_iconst (pc := 119) C dX6_readSign_119 (by decide) ?_
    refine zs_bipush (pc := 120) C dX6_readSign_120 (by decide) (by decide) ?_
    refine zVv2 (pc := 122) C dX6_readSign_122 v_X6_81 (c_X6_add hX ) (by decide) (by decide) ⟨Nat.zero_le _, Nat.zero_le _⟩ (Nat.le_of_ble_eq_true rfl) (fun G122 hp122 => ?_)
    obtain ⟨hz122, hq122⟩ := hp122
    have tr122_706 := zsm_at hz122 706 w 0 (by decide)
    try simp only [zuI_1, zuI_2, zuJ_1, zuJ_2, zuJ_3, zuP_1, zuP_2, zuP_3, zuC_1, zuC_2, reduceIte, Nat.reduceEqDiff, false_and, and_false, true_and, and_true, and_self, or_true, true_or, or_false, false_or] at tr122_706
    refine zs_goto (tgt := 292) (pc := 125) C dX6_readSign_125 (by decide) ?_
    exact zs_vret (pc := 292) C hr hlk dX6_readSign_292 ⟨by repeat (first | exact zsm_rf | assumption | refine zsm_C (by decide) ?_ | refine zsm_I (by decide) ?_ | refine zsm_J ?_ | refine zsm_c (by assumption) (by decide) ?_), by first | omega | (simp only [zuI_1, zuI_2, zuJ_1, zuJ_2, zuJ_3, zuP_1, zuP_2, zuP_3, zuC_1, zuC_2, reduceIte, Nat.reduceEqDiff, false_and, and_false, true_and, and_true, and_self, or_true, true_or, or_false, false_or]; omega)⟩
  · skip
    refine zs_tabIn (pc := 1) (tgt := 128) C 41 dX6_readSign_1 h1 (by decide) rfl (by decide) ?_
    refine zs_aload_n (pc := 128) C dX6_readSign_128 rfl ?_
    refine zs_iconst (pc := 129) C dX6_readSign_129 (by decide) ?_
    refine zs_bipush (pc := 130) C dX6_readSign_130 (by decide) (by decide) ?_
    refine zVv2 (pc := 132) C dX6_readSign_132 v_X6_81 (c_X6_add hX ) (by decide) (by decide) ⟨Nat.zero_le _, Nat.zero_le _⟩ (Nat.le_of_ble_eq_true rfl) (fun G132 hp132 => ?_)
    obtain ⟨hz132, hq132⟩ := hp132
    have tr132_706 := zsm_at hz132 706 w 0 (by decide)
    try simp only [zuI_1, zuI_2, zuJ_1, zuJ_2, zuJ_3, zuP_1, zuP_2, zuP_3, zuC_1, zuC_2, reduceIte, Nat.reduceEqDiff, false_and, and_false, true_and, and_true, and_self, or_true, true_or, or_false, false_or] at tr132_706
    refine zs_goto (tgt := 292) (pc := 135) C dX6_readSign_135 (by decide) ?_
    exact zs_vret (pc := 292) C hr hlk dX6_readSign_292 ⟨by repeat (first | exact zsm_rf | assumption | refine zsm_C (by decide) ?_ | refine zsm_I (by decide) ?_ | refine zsm_J ?_ | refine zsm_c (by assumption) (by decide) ?_), by first | omega | (simp only [zuI_1, zuI_2, zuJ_1, zuJ_2, zuJ_3, zuP_1, zuP_2, zuP_3, zuC_1, zuC_2, reduceIte, Nat.reduceEqDiff, false_and, and_false, true_and, and_true, and_self, or_true, true_or, or_false, false_or]; omega)⟩
  · skip
    refine zs_tabIn (pc := 1) (tgt := 158) C 42 dX6_readSign_1 h1 (by decide) rfl (by decide) ?_
    refine zs_aload_n (pc := 158) C dX6_readSign_158 rfl ?_
    refine zs_iconst (pc := 159) C dX6_readSign_159 (by decide) ?_
    refine zs_bipush (pc := 160) C dX6_readSign_160 (by decide) (by decide) ?_
    refine zVv2 (pc := 162) C dX6_readSign_162 v_X6_81 (c_X6_add hX ) (by decide) (by decide) ⟨Nat.zero_le _, Nat.zero_le _⟩ (Nat.le_of_ble_eq_true rfl) (fun G162 hp162 => ?_)
    obtain ⟨hz162, hq162⟩ := hp162
    have tr162_706 := zsm_at hz162 706 w 0 (by decide)
    try simp only [zuI_1, zuI_2, zuJ_1, zuJ_2, zuJ_3, zuP_1, zuP_2, zuP_3, zuC_1, zuC_2, reduceIte, Nat.reduceEqDiff, false_and, and_false, true_and, and_true, and_self, or_true, true_or, or_false, false_or] at tr162_706
    refine zs_goto (tgt := 292) (pc := 165) C dX6_readSign_165 (by decide) ?_
    exact zs_vret (pc := 292) C hr hlk dX6_readSign_292 ⟨by repeat (first | exact zsm_rf | assumption | refine zsm_C (by decide) ?_ | refine zsm_I (by decide) ?_ | refine zsm_J ?_ | refine zsm_c (by assumption) (by decide) ?_), by first | omega | (simp only [zuI_1, zuI_2, zuJ_1, zuJ_2, zuJ_3, zuP_1, zuP_2, zuP_3, zuC_1, zuC_2, reduceIte, Nat.reduceEqDiff, false_and, and_false, true_and, and_true, and_self, or_true, true_or, or_false, false_or]; omega)⟩
  · skip
    refine zs_tabIn (pc := 1) (tgt := 138) C 43 dX6_readSign_1 h1 (by decide) rfl (by decide) ?_
    refine zs_aload_n (pc := 138) C dX6_readSign_138 rfl ?_
    refine zs_iconst (pc := 139) C dX6_readSign_139 (by decide) ?_
    refine zs_bipush (pc := 140) C dX6_readSign_140 (by decide) (by decide) ?_
    refine zVv2 (pc := 142) C dX6_readSign_142 v_X6_81 (c_X6_add hX ) (by decide) (by decide) ⟨Nat.zero_le _, Nat.zero_le _⟩ (Nat.le_of_ble_eq_true rfl) (fun G142 hp142 => ?_)
    obtain ⟨hz142, hq142⟩ := hp142
    have tr142_706 := zsm_at hz142 706 w 0 (by decide)
    try simp only [zuI_1, zuI_2, zuJ_1, zuJ_2, zuJ_3, zuP_1, zuP_2, zuP_3, zuC_1, zuC_2, reduceIte, Nat.reduceEqDiff, false_and, and_false, true_and, and_true, and_self, or_true, true_or, or_false, false_or] at tr142_706
    refine zs_goto (tgt := 292) (pc := 145) C dX6_readSign_145 (by decide) ?_
    exact zs_vret (pc := 292) C hr hlk dX6_readSign_292 ⟨by repeat (first | exact zsm_rf | assumption | refine zsm_C (by decide) ?_ | refine zsm_I (by decide) ?_ | refine zsm_J ?_ | refine zsm_c (by assumption) (by decide) ?_), by first | omega | (simp only [zuI_1, zuI_2, zuJ_1, zuJ_2, zuJ_3, zuP_1, zuP_2, zuP_3, zuC_1, zuC_2, reduceIte, Nat.reduceEqDiff, false_and, and_false, true_and, and_true, and_self, or_true, true_or, or_false, false_or]; omega)⟩
  · skip
    refine zs_tabIn (pc := 1) (tgt := 286) C 44 dX6_readSign_1 h1 (by decide) rfl (by decide) ?_
    refine zs_aload_n (pc := 286) C dX6_readSign_286 rfl ?_
    refine zs_iconst (pc := 287) C dX6_readSign_287 (by decide) ?_
    refine zs_iconst (pc := 288) C dX6_readSign_288 (by decide) ?_
    refine zVv2 (pc := 289) C dX6_readSign_289 v_X6_81 (c_X6_add hX ) (by decide) (by decide) ⟨Nat.zero_le _, Nat.zero_le _⟩ (Nat.le_of_ble_eq_true rfl) (fun G289 hp289 => ?_)
    obtain ⟨hz289, hq289⟩ := hp289
    have tr289_706 := zsm_at hz289 706 w 0 (by decide)
    try simp only [zuI_1, zuI_2, zuJ_1, zuJ_2, zuJ_3, zuP_1, zuP_2, zuP_3, zuC_1, zuC_2, reduceIte, Nat.reduceEqDiff, false_and, and_false, true_and, and_true, and_self, or_true, true_or, or_false, false_or] at tr289_706
    exact zs_vret (pc := 292) C hr hlk dX6_readSign_292 ⟨by repeat (first | exact zsm_rf | assumption | refine zsm_C (by decide) ?_ | refine zsm_I (by decide) ?_ | refine zsm_J ?_ | refine zsm_c (by assumption) (by decide) ?_), by first | omega | (simp only [zuI_1, zuI_2, zuJ_1, zuJ_2, zuJ_3, zuP_1, zuP_2, zuP_3, zuC_1, zuC_2, reduceIte, Nat.reduceEqDiff, false_and, and_false, true_and, and_true, and_self, or_true, true_or, or_false, false_or]; omega)⟩
  · skip
    refine zs_tabIn (pc := 1) (tgt := 148) C 45 dX6_readSign_1 h1 (by decide) rfl (by decide) ?_
    refine zs_aload_n (pc := 148) C dX6_readSign_148 rfl ?_
    refine zs_iconst (pc := 149) C dX6_readSign_149 (by decide) ?_
    refine zs_bipush (pc := 150) C dX6_readSign_150 (by decide) (by decide) ?_
    refine zVv2 (pc := 152) C dX6_readSign_152 v_X6_81 (c_X6_add hX ) (by decide) (by decide) ⟨Nat.zero_le _, Nat.zero_le _⟩ (Nat.le_of_ble_eq_true rfl) (fun G152 hp152 => ?_)
    obtain ⟨hz152, hq152⟩ := hp152
    have tr152_706 := zsm_at hz152 706 w 0 (by decide)
    try simp only [zuI_1, zuI_2, zuJ_1, zuJ_2, zuJ_3, zuP_1, zuP_2, zuP_3, zuC_1, zuC_2, reduceIte, Nat.reduceEqDiff, false_and, and_false, true_and, and_true, and_self, or_true, true_or, or_false, false_or] at tr152_706
    refine zs_goto (tgt := 292) (pc := 155) C dX6_readSign_155 (by decide) ?_
    exact zs_vret (pc := 292) C hr hlk dX6_readSign_292 ⟨by repeat (first | exact zsm_rf | assumption | refine zsm_C (by decide) ?_ | refine zsm_I (by decide) ?_ | refine zsm_J ?_ | refine zsm_c (by assumption) (by decide) ?_), by first | omega | (simp only [zuI_1, zuI_2, zuJ_1, zuJ_2, zuJ_3, zuP_1, zuP_2, zuP_3, zuC_1, zuC_2, reduceIte, Nat.reduceEqDiff, false_and, and_false, true_and, and_true, and_self, or_true, true_or, or_false, false_or]; omega)⟩
  · skip
    refine zs_tabIn (pc := 1) (tgt := 286) C 46 dX6_readSign_1 h1 (by decide) rfl (by decide) ?_
    refine zs_aload_n (pc := 286) C dX6_readSign_286 rfl ?_
    refine zs_iconst (pc := 287) C dX6_readSign_287 (by decide) ?_
    refine zs_iconst (pc := 288) C dX6_readSign_288 (by decide) ?_
    refine zVv2 (pc := 289) C dX6_readSign_289 v_X6_81 (c_X6_add hX ) (by decide) (by decide) ⟨Nat.zero_le _, Nat.zero_le _⟩ (Nat.le_of_ble_eq_true rfl) (fun G289 hp289 => ?_)
    obtain ⟨hz289, hq289⟩ := hp289
    have tr289_706 := zsm_at hz289 706 w 0 (by decide)
    try simp only [zuI_1, zuI_2, zuJ_1, zuJ_2, zuJ_3, zuP_1, zuP_2, zuP_3, zuC_1, zuC_2, reduceIte, Nat.reduceEqDiff, false_and, and_false, true_and, and_true, and_self, or_true, true_or, or_false, false_or] at tr289_706
    exact zs_vret (pc := 292) C hr hlk dX6_readSign_292 ⟨by repeat (first | exact zsm_rf | assumption | refine zsm_C (by decide) ?_ | refine zsm_I (by decide) ?_ | refine zsm_J ?_ | refine zsm_c (by assumption) (by decide) ?_), by first | omega | (simp only [zuI_1, zuI_2, zuJ_1, zuJ_2, zuJ_3, zuP_1, zuP_2, zuP_3, zuC_1, zuC_2, reduceIte, Nat.reduceEqDiff, false_and, and_false, true_and, and_true, and_self, or_true, true_or, or_false, false_or]; omega)⟩
  · skip
    refine zs_tabIn (pc := 1) (tgt := 168) C 47 dX6_readSign_1 h1 (by decide) rfl (by decide) ?_
    refine zs_aload_n (pc := 168) C dX6_readSign_168 rfl ?_
    refine zs_iconst (pc := 169) C dX6_readSign_169 (by decide) ?_
    refine zs_bipush (pc := 170) C dX6_readSign_170 (by decide) (by decide) ?_
    refine zVv2 (pc := 172) C dX6_readSign_172 v_X6_81 (c_X6_add hX ) (by decide) (by decide) ⟨Nat.zero_le _, Nat.zero_le _⟩ (Nat.le_of_ble_eq_true rfl) (fun G172 hp172 => ?_)
    obtain ⟨hz172, hq172⟩ := hp172
    have tr172_706 := zsm_at hz172 706 w 0 (by decide)
    try simp only [zuI_1, zuI_2, zuJ_1, zuJ_2, zuJ_3, zuP_1, zuP_2, zuP_3, zuC_1, zuC_2, reduceIte, Nat.reduceEqDiff, false_and, and_false, true_and, and_true, and_self, or_true, true_or, or_false, false_or] at tr172_706
    refine zs_goto (tgt := 292) (pc := 175) C dX6_readSign_175 (by decide) ?_
    exact zs_vret (pc := 292) C hr hlk dX6_readSign_292 ⟨by repeat (first | exact zsm_rf | assumption | refine zsm_C (by decide) ?_ | refine zsm_I (by decide) ?_ | refine zsm_J ?_ | refine zsm_c (by assumption) (by decide) ?_), by first | omega | (simp only [zuI_1, zuI_2, zuJ_1, zuJ_2, zuJ_3, zuP_1, zuP_2, zuP_3, zuC_1, zuC_2, reduceIte, Nat.reduceEqDiff, false_and, and_false, true_and, and_true, and_self, or_true, true_or, or_false, false_or]; omega)⟩
  · skip
    refine zs_tabIn (pc := 1) (tgt := 286) C 48 dX6_readSign_1 h1 (by decide) rfl (by decide) ?_
    refine zs_aload_n (pc := 286) C dX6_readSign_286 rfl ?_
    refine zs_iconst (pc := 287) C dX6_readSign_287 (by decide) ?_
    refine zs_iconst (pc := 288) C dX6_readSign_288 (by decide) ?_
    refine zVv2 (pc := 289) C dX6_readSign_289 v_X6_81 (c_X6_add hX ) (by decide) (by decide) ⟨Nat.zero_le _, Nat.zero_le _⟩ (Nat.le_of_ble_eq_true rfl) (fun G289 hp289 => ?_)
    obtain ⟨hz289, hq289⟩ := hp289
    have tr289_706 := zsm_at hz289 706 w 0 (by decide)
    try simp only [zuI_1, zuI_2, zuJ_1, zuJ_2, zuJ_3, zuP_1, zuP_2, zuP_3, zuC_1, zuC_2, reduceIte, Nat.reduceEqDiff, false_and, and_false, true_and, and_true, and_self, or_true, true_or, or_false, false_or] at tr289_706
    exact zs_vret (pc := 292) C hr hlk dX6_readSign_292 ⟨by repeat (first | exact zsm_rf | assumption | refine zsm_C (by decide) ?_ | refine zsm_I (by decide) ?_ | refine zsm_J ?_ | refine zsm_c (by assumption) (by decide) ?_), by first | omega | (simp only [zuI_1, zuI_2, zuJ_1, zuJ_2, zuJ_3, zuP_1, zuP_2, zuP_3, zuC_1, zuC_2, reduceIte, Nat.reduceEqDiff, false_and, and_false, true_and, and_true, and_self, or_true, true_or, or_false, false_or]; omega)⟩
  · skip
    refine zs_tabIn (pc := 1) (tgt := 286) C 49 dX6_readSign_1 h1 (by decide) rfl (by decide) ?_
    refine zs_aload_n (pc := 286) C dX6_readSign_286 rfl ?_
    refine zs_iconst (pc := 287) C dX6_readSign_287 (by decide) ?_
    refine zs_iconst (pc := 288) C dX6_readSign_288 (by decide) ?_
    refine zVv2 (pc := 289) C dX6_readSign_289 v_X6_81 (c_X6_add hX ) (by decide) (by decide) ⟨Nat.zero_le _, Nat.zero_le _⟩ (Nat.le_of_ble_eq_true rfl) (fun G289 hp289 => ?_)
    obtain ⟨hz289, hq289⟩ := hp289
    have tr289_706 := zsm_at hz289 706 w 0 (by decide)
    try simp only [zuI_1, zuI_2, zuJ_1, zuJ_2, zuJ_3, zuP_1, zuP_2, zuP_3, zuC_1, zuC_2, reduceIte, Nat.reduceEqDiff, false_and, and_false, true_and, and_true, and_self, or_true, true_or, or_false, false_or] at tr289_706
    exact zs_vret (pc := 292) C hr hlk dX6_readSign_292 ⟨by repeat (first | exact zsm_rf | assumption | refine zsm_C (by decide) ?_ | refine zsm_I (by decide) ?_ | refine zsm_J ?_ | refine zsm_c (by assumption) (by decide) ?_), by first | omega | (simp only [zuI_1, zuI_2, zuJ_1, zuJ_2, zuJ_3, zuP_1, zuP_2, zuP_3, zuC_1, zuC_2, reduceIte, Nat.reduceEqDiff, false_and, and_false, true_and, and_true, and_self, or_true, true_or, or_false, false_or]; omega)⟩
  · skip
    refine zs_tabIn (pc := 1) (tgt := 286) C 50 dX6_readSign_1 h1 (by decide) rfl (by decide) ?_
    refine zs_aload_n (pc := 286) C dX6_readSign_286 rfl ?_
    refine zs_iconst (pc := 287) C dX6_readSign_287 (by decide) ?_
    refine zs_iconst (pc := 288) C dX6_readSign_288 (by decide) ?_
    refine zVv2 (pc := 289) C dX6_readSign_289 v_X6_81 (c_X6_add hX ) (by decide) (by decide) ⟨Nat.zero_le _, Nat.zero_le _⟩ (Nat.le_of_ble_eq_true rfl) (fun G289 hp289 => ?_)
    obtain ⟨hz289, hq289⟩ := hp289
    have tr289_706 := zsm_at hz289 706 w 0 (by decide)
    try simp only [zuI_1, zuI_2, zuJ_1, zuJ_2, zuJ_3, zuP_1, zuP_2, zuP_3, zuC_1, zuC_2, reduceIte, Nat.reduceEqDiff, false_and, and_false, true_and, and_true, and_self, or_true, true_or, or_false, false_or] at tr289_706
    exact zs_vret (pc := 292) C hr hlk dX6_readSign_292 ⟨by repeat (first | exact zsm_rf | assumption | refine zsm_C (by decide) ?_ | refine zsm_I (by decide) ?_ | refine zsm_J ?_ | refine zsm_c (by assumption) (by decide) ?_), by first | omega | (simp only [zuI_1, zuI_2, zuJ_1, zuJ_2, zuJ_3, zuP_1, zuP_2, zuP_3, zuC_1, zuC_2, reduceIte, Nat.reduceEqDiff, false_and, and_false, true_and, and_true, and_self, or_true, true_or, or_false, false_or]; omega)⟩
  · skip
    refine zs_tabIn (pc := 1) (tgt := 286) C 51 dX6_readSign_1 h1 (by decide) rfl (by decide) ?_
    refine zs_aload_n (pc := 286) C dX6_readSign_286 rfl ?_
    refine zs_iconst (pc := 287) C dX6_readSign_287 (by decide) ?_
    refine zs_iconst (pc := 288) C dX6_readSign_288 (by decide) ?_
    refine zVv2 (pc := 289) C dX6_readSign_289 v_X6_81 (c_X6_add hX ) (by decide) (by decide) ⟨Nat.zero_le _, Nat.zero_le _⟩ (Nat.le_of_ble_eq_true rfl) (fun G289 hp289 => ?_)
    obtain ⟨hz289, hq289⟩ := hp289
    have tr289_706 := zsm_at hz289 706 w 0 (by decide)
    try simp only [zuI_1, zuI_2, zuJ_1, zuJ_2, zuJ_3, zuP_1, zuP_2, zuP_3, zuC_1, zuC_2, reduceIte, Nat.reduceEqDiff, false_and, and_false, true_and, and_true, and_self, or_true, true_or, or_false, false_or] at tr289_706
    exact zs_vret (pc := 292) C hr hlk dX6_readSign_292 ⟨by repeat (first | exact zsm_rf | assumption | refine zsm_C (by decide) ?_ | refine zsm_I (by decide) ?_ | refine zsm_J ?_ | refine zsm_c (by assumption) (by decide) ?_), by first | omega | (simp only [zuI_1, zuI_2, zuJ_1, zuJ_2, zuJ_3, zuP_1, zuP_2, zuP_3, zuC_1, zuC_2, reduceIte, Nat.reduceEqDiff, false_and, and_false, true_and, and_true, and_self, or_true, true_or, or_false, false_or]; omega)⟩
  · skip
    refine zs_tabIn (pc := 1) (tgt := 286) C 52 dX6_readSign_1 h1 (by decide) rfl (by decide) ?_
    refine zs_aload_n (pc := 286) C dX6_readSign_286 rfl ?_
    refine zs_iconst (pc := 287) C dX6_readSign_287 (by decide) ?_
    refine zs_iconst (pc := 288) C dX6_readSign_288 (by decide) ?_
    refine zVv2 (pc := 289) C dX6_readSign_289 v_X6_81 (c_X6_add hX ) (by decide) (by decide) ⟨Nat.zero_le _, Nat.zero_le _⟩ (Nat.le_of_ble_eq_true rfl) (fun G289 hp289 => ?_)
    obtain ⟨hz289, hq289⟩ := hp289
    have tr289_706 := zsm_at hz289 706 w 0 (by decide)
    try simp only [zuI_1, zuI_2, zuJ_1, zuJ_2, zuJ_3, zuP_1, zuP_2, zuP_3, zuC_1, zuC_2, reduceIte, Nat.reduceEqDiff, false_and, and_false, true_and, and_true, and_self, or_true, true_or, or_false, false_or] at tr289_706
    exact zs_vret (pc := 292) C hr hlk dX6_readSign_292 ⟨by repeat (first | exact zsm_rf | assumption | refine zsm_C (by decide) ?_ | refine zsm_I (by decide) ?_ | refine zsm_J ?_ | refine zsm_c (by assumption) (by decide) ?_), by first | omega | (simp only [zuI_1, zuI_2, zuJ_1, zuJ_2, zuJ_3, zuP_1, zuP_2, zuP_3, zuC_1, zuC_2, reduceIte, Nat.reduceEqDiff, false_and, and_false, true_and, and_true, and_self, or_true, true_or, or_false, false_or]; omega)⟩
  · skip
    refine zs_tabIn (pc := 1) (tgt := 286) C 53 dX6_readSign_1 h1 (by decide) rfl (by decide) ?_
    refine zs_aload_n (pc := 286) C dX6_readSign_286 rfl ?_
    refine zs_iconst (pc := 287) C dX6_readSign_287 (by decide) ?_
    refine zs_iconst (pc := 288) C dX6_readSign_288 (by decide) ?_
    refine zVv2 (pc := 289) C dX6_readSign_289 v_X6_81 (c_X6_add hX ) (by decide) (by decide) ⟨Nat.zero_le _, Nat.zero_le _⟩ (Nat.le_of_ble_eq_true rfl) (fun G289 hp289 => ?_)
    obtain ⟨hz289, hq289⟩ := hp289
    have tr289_706 := zsm_at hz289 706 w 0 (by decide)
    try simp only [zuI_1, zuI_2, zuJ_1, zuJ_2, zuJ_3, zuP_1, zuP_2, zuP_3, zuC_1, zuC_2, reduceIte, Nat.reduceEqDiff, false_and, and_false, true_and, and_true, and_self, or_true, true_or, or_false, false_or] at tr289_706
    exact zs_vret (pc := 292) C hr hlk dX6_readSign_292 ⟨by repeat (first | exact zsm_rf | assumption | refine zsm_C (by decide) ?_ | refine zsm_I (by decide) ?_ | refine zsm_J ?_ | refine zsm_c (by assumption) (by decide) ?_), by first | omega | (simp only [zuI_1, zuI_2, zuJ_1, zuJ_2, zuJ_3, zuP_1, zuP_2, zuP_3, zuC_1, zuC_2, reduceIte, Nat.reduceEqDiff, false_and, and_false, true_and, and_true, and_self, or_true, true_or, or_false, false_or]; omega)⟩
  · skip
    refine zs_tabIn (pc := 1) (tgt := 286) C 54 dX6_readSign_1 h1 (by decide) rfl (by decide) ?_
    refine zs_aload_n (pc := 286) C dX6_readSign_286 rfl ?_
    refine zs_iconst (pc := 287) C dX6_readSign_287 (by decide) ?_
    refine zs_iconst (pc := 288) C dX6_readSign_288 (by decide) ?_
    refine zVv2 (pc := 289) C dX6_readSign_289 v_X6_81 (c_X6_add hX ) (by decide) (by decide) ⟨Nat.zero_le _, Nat.zero_le _⟩ (Nat.le_of_ble_eq_true rfl) (fun G289 hp289 => ?_)
    obtain ⟨hz289, hq289⟩ := hp289
    have tr289_706 := zsm_at hz289 706 w 0 (by decide)
    try simp only [zuI_1, zuI_2, zuJ_1, zuJ_2, zuJ_3, zuP_1, zuP_2, zuP_3, zuC_1, zuC_2, reduceIte, Nat.reduceEqDiff, false_and, and_false, true_and, and_true, and_self, or_true, true_or, or_false, false_or] at tr289_706
    exact zs_vret (pc := 292) C hr hlk dX6_readSign_292 ⟨by repeat (first | exact zsm_rf | assumption | refine zsm_C (by decide) ?_ | refine zsm_I (by decide) ?_ | refine zsm_J ?_ | refine zsm_c (by assumption) (by decide) ?_), by first | omega | (simp only [zuI_1, zuI_2, zuJ_1, zuJ_2, zuJ_3, zuP_1, zuP_2, zuP_3, zuC_1, zuC_2, reduceIte, Nat.reduceEqDiff, false_and, and_false, true_and, and_true, and_self, or_true, true_or, or_false, false_or]; omega)⟩
  · skip
    refine zs_tabIn (pc := 1) (tgt := 286) C 55 dX6_readSign_1 h1 (by decide) rfl (by decide) ?_
    refine zs_aload_n (pc := 286) C dX6_readSign_286 rfl ?_
    refine zs_iconst (pc := 287) C dX6_readSign_287 (by decide) ?_
    refine zs_iconst (pc := 288) C dX6_readSign_288 (by decide) ?_
    refine zVv2 (pc := 289) C dX6_readSign_289 v_X6_81 (c_X6_add hX ) (by decide) (by decide) ⟨Nat.zero_le _, Nat.zero_le _⟩ (Nat.le_of_ble_eq_true rfl) (fun G289 hp289 => ?_)
    obtain ⟨hz289, hq289⟩ := hp289
    have tr289_706 := zsm_at hz289 706 w 0 (by decide)
    try simp only [zuI_1, zuI_2, zuJ_1, zuJ_2, zuJ_3, zuP_1, zuP_2, zuP_3, zuC_1, zuC_2, reduceIte, Nat.reduceEqDiff, false_and, and_false, true_and, and_true, and_self, or_true, true_or, or_false, false_or] at tr289_706
    exact zs_vret (pc := 292) C hr hlk dX6_readSign_292 ⟨by repeat (first | exact zsm_rf | assumption | refine zsm_C (by decide) ?_ | refine zsm_I (by decide) ?_ | refine zsm_J ?_ | refine zsm_c (by assumption) (by decide) ?_), by first | omega | (simp only [zuI_1, zuI_2, zuJ_1, zuJ_2, zuJ_3, zuP_1, zuP_2, zuP_3, zuC_1, zuC_2, reduceIte, Nat.reduceEqDiff, false_and, and_false, true_and, and_true, and_self, or_true, true_or, or_false, false_or]; omega)⟩
  · skip
    refine zs_tabIn (pc := 1) (tgt := 286) C 56 dX6_readSign_1 h1 (by decide) rfl (by decide) ?_
    refine zs_aload_n (pc := 286) C dX6_readSign_286 rfl ?_
    refine zs_iconst (pc := 287) C dX6_readSign_287 (by decide) ?_
    refine zs_iconst (pc := 288) C dX6_readSign_288 (by decide) ?_
    refine zVv2 (pc := 289) C dX6_readSign_289 v_X6_81 (c_X6_add hX ) (by decide) (by decide) ⟨Nat.zero_le _, Nat.zero_le _⟩ (Nat.le_of_ble_eq_true rfl) (fun G289 hp289 => ?_)
    obtain ⟨hz289, hq289⟩ := hp289
    have tr289_706 := zsm_at hz289 706 w 0 (by decide)
    try simp only [zuI_1, zuI_2, zuJ_1, zuJ_2, zuJ_3, zuP_1, zuP_2, zuP_3, zuC_1, zuC_2, reduceIte, Nat.reduceEqDiff, false_and, and_false, true_and, and_true, and_self, or_true, true_or, or_false, false_or] at tr289_706
    exact zs_vret (pc := 292) C hr hlk dX6_readSign_292 ⟨by repeat (first | exact zsm_rf | assumption | refine zsm_C (by decide) ?_ | refine zsm_I (by decide) ?_ | refine zsm_J ?_ | refine zsm_c (by assumption) (by decide) ?_), by first | omega | (simp only [zuI_1, zuI_2, zuJ_1, zuJ_2, zuJ_3, zuP_1, zuP_2, zuP_3, zuC_1, zuC_2, reduceIte, Nat.reduceEqDiff, false_and, and_false, true_and, and_true, and_self, or_true, true_or, or_false, false_or]; omega)⟩
  · skip
    refine zs_tabIn (pc := 1) (tgt := 286) C 57 dX6_readSign_1 h1 (by decide) rfl (by decide) ?_
    refine zs_aload_n (pc := 286) C dX6_readSign_286 rfl ?_
    refine zs_iconst (pc := 287) C dX6_readSign_287 (by decide) ?_
    refine zs_iconst (pc := 288) C dX6_readSign_288 (by decide) ?_
    refine zVv2 (pc := 289) C dX6_readSign_289 v_X6_81 (c_X6_add hX ) (by decide) (by decide) ⟨Nat.zero_le _, Nat.zero_le _⟩ (Nat.le_of_ble_eq_true rfl) (fun G289 hp289 => ?_)
    obtain ⟨hz289, hq289⟩ := hp289
    have tr289_706 := zsm_at hz289 706 w 0 (by decide)
    try simp only [zuI_1, zuI_2, zuJ_1, zuJ_2, zuJ_3, zuP_1, zuP_2, zuP_3, zuC_1, zuC_2, reduceIte, Nat.reduceEqDiff, false_and, and_false, true_and, and_true, and_self, or_true, true_or, or_false, false_or] at tr289_706
    exact zs_vret (pc := 292) C hr hlk dX6_readSign_292 ⟨by repeat (first | exact zsm_rf | assumption | refine zsm_C (by decide) ?_ | refine zsm_I (by decide) ?_ | refine zsm_J ?_ | refine zsm_c (by assumption) (by decide) ?_), by first | omega | (simp only [zuI_1, zuI_2, zuJ_1, zuJ_2, zuJ_3, zuP_1, zuP_2, zuP_3, zuC_1, zuC_2, reduceIte, Nat.reduceEqDiff, false_and, and_false, true_and, and_true, and_self, or_true, true_or, or_false, false_or]; omega)⟩
  · skip
    refine zs_tabIn (pc := 1) (tgt := 286) C 58 dX6_readSign_1 h1 (by decide) rfl (by decide) ?_
    refine zs_aload_n (pc := 286) C dX6_readSign_286 rfl ?_
    refine zs_iconst (pc := 287) C dX6_readSign_287 (by decide) ?_
    refine zs_iconst (pc := 288) C dX6_readSign_288 (by decide) ?_
    refine zVv2 (pc := 289) C dX6_readSign_289 v_X6_81 (c_X6_add hX ) (by decide) (by decide) ⟨Nat.zero_le _, Nat.zero_le _⟩ (Nat.le_of_ble_eq_true rfl) (fun G289 hp289 => ?_)
    obtain ⟨hz289, hq289⟩ := hp289
    have tr289_706 := zsm_at hz289 706 w 0 (by decide)
    try simp only [zuI_1, zuI_2, zuJ_1, zuJ_2, zuJ_3, zuP_1, zuP_2, zuP_3, zuC_1, zuC_2, reduceIte, Nat.reduceEqDiff, false_and, and_false, true_and, and_true, and_self, or_true, true_or, or_false, false_or] at tr289_706
    exact zs_vret (pc := 292) C hr hlk dX6_readSign_292 ⟨by repeat (first | exact zsm_rf | assumption | refine zsm_C (by decide) ?_ | refine zsm_I (by decide) ?_ | refine zsm_J ?_ | refine zsm_c (by assumption) (by decide) ?_), by first | omega | (simp only [zuI_1, zuI_2, zuJ_1, zuJ_2, zuJ_3, zuP_1, zuP_2, zuP_3, zuC_1, zuC_2, reduceIte, Nat.reduceEqDiff, false_and, and_false, true_and, and_true, and_self, or_true, true_or, or_false, false_or]; omega)⟩
  · skip
    refine zs_tabIn (pc := 1) (tgt := 108) C 59 dX6_readSign_1 h1 (by decide) rfl (by decide) ?_
    refine zs_aload_n (pc := 108) C dX6_readSign_108 rfl ?_
    refine zs_iconst (pc := 109) C dX6_readSign_109 (by decide) ?_
    refine zs_bipush (pc := 110) C dX6_readSign_110 (by decide) (by decide) ?_
    refine zVv2 (pc := 112) C dX6_readSign_112 v_X6_81 (c_X6_add hX ) (by decide) (by decide) ⟨Nat.zero_le _, Nat.zero_le _⟩ (Nat.le_of_ble_eq_true rfl) (fun G112 hp112 => ?_)
    obtain ⟨hz112, hq112⟩ := hp112
    have tr112_706 := zsm_at hz112 706 w 0 (by decide)
    try simp only [zuI_1, zuI_2, zuJ_1, zuJ_2, zuJ_3, zuP_1, zuP_2, zuP_3, zuC_1, zuC_2, reduceIte, Nat.reduceEqDiff, false_and, and_false, true_and, and_true, and_self, or_true, true_or, or_false, false_or] at tr112_706
    refine zs_goto (tgt := 292) (pc := 115) C dX6_readSign_115 (by decide) ?_
    exact zs_vret (pc := 292) C hr hlk dX6_readSign_292 ⟨by repeat (first | exact zsm_rf | assumption | refine zsm_C (by decide) ?_ | refine zsm_I (by decide) ?_ | refine zsm_J ?_ | refine zsm_c (by assumption) (by decide) ?_), by first | omega | (simp only [zuI_1, zuI_2, zuJ_1, zuJ_2, zuJ_3, zuP_1, zuP_2, zuP_3, zuC_1, zuC_2, reduceIte, Nat.reduceEqDiff, false_and, and_false, true_and, and_true, and_self, or_true, true_or, or_false, false_or]; omega)⟩
  · skip
    refine zs_tabIn (pc := 1) (tgt := 188) C 60 dX6_readSign_1 h1 (by decide) rfl (by decide) ?_
    refine zs_aload_n (pc := 188) C dX6_readSign_188 rfl ?_
    refine zs_iconst (pc := 189) C dX6_readSign_189 (by decide) ?_
    refine zs_iload_n (pc := 190) C dX6_readSign_190 rfl ?_
    refine zs_bipush (pc := 191) C dX6_readSign_191 (by decide) (by decide) ?_
    refine zs_icmp_ne (tgt := 201) (pc := 193) C dX6_readSign_193 (by decide) (fun h193 => ?_) (fun h193 => ?_)
    · skip
      refine zs_iload_n (pc := 201) C dX6_readSign_201 rfl ?_
      refine zs_bipush (pc := 202) C dX6_readSign_202 (by decide) (by decide) ?_
      refine zs_icmp_ne (tgt := 212) (pc := 204) C dX6_readSign_204 (by decide) (fun h204 => ?_) (fun h204 => ?_)
      · skip
        refine zs_iconst (pc := 212) C dX6_readSign_212 (by decide) ?_
        refine zVv2 (pc := 213) C dX6_readSign_213 v_X6_81 (c_X6_add hX ) (by decide) (by decide) ⟨Nat.zero_le _, Nat.zero_le _⟩ (Nat.le_of_ble_eq_true rfl) (fun G213 hp213 => ?_)
        obtain ⟨hz213, hq213⟩ := hp213
        have tr213_706 := zsm_at hz213 706 w 0 (by decide)
        try simp only [zuI_1, zuI_2, zuJ_1, zuJ_2, zuJ_3, zuP_1, zuP_2, zuP_3, zuC_1, zuC_2, reduceIte, Nat.reduceEqDiff, false_and, and_false, true_and, and_true, and_self, or_true, true_or, or_false, false_or] at tr213_706
        refine zs_aload_n (pc := 216) C dX6_readSign_216 rfl ?_
        refine zs_dupa (pc := 217) C dX6_readSign_217 ?_
        refine zs_geti (r := 706) (pc := 218) C dX6_readSign_218 w_X6_60 f_7_6 rfl (r_706 0) (fun v218 e218 l218 u218 => ?_)
        refine zs_iload_n (pc := 221) C dX6_readSign_221 rfl ?_
        refine zs_bipush (pc := 222) C dX6_readSign_222 (by decide) (by decide) ?_
        refine zs_icmp_eq (tgt := 233) (pc := 224) C dX6_readSign_224 (by decide) (fun h224 => ?_) (fun h224 => ?_)
        · skip
          refine zs_iconst (pc := 233) C dX6_readSign_233 (by decide) ?_
          refine zs_goto (tgt := 238) (pc := 234) C dX6_readSign_234 (by decide) ?_
          first | refine zs_iadd (pc := 238) C dX6_readSign_238 (by omega) ?_ | refine zs_iaddF (pc := 238) C dX6_readSign_238 (fun z238 hz2381 hz2382 => ?_)
          refine zs_puti (r := 706) (pc := 239) C dX6_readSign_239 w_X6_60 f_7_6 rfl (r_706 0) (by omega) ?_
          refine zs_goto (tgt := 292) (pc := 242) C dX6_readSign_242 (by decide) ?_
          exact zs_vret (pc := 292) C hr hlk dX6_readSign_292 ⟨by repeat (first | exact zsm_rf | assumption | refine zsm_C (by decide) ?_ | refine zsm_I (by decide) ?_ | refine zsm_J ?_ | refine zsm_c (by assumption) (by decide) ?_), by first | omega | (simp only [zuI_1, zuI_2, zuJ_1, zuJ_2, zuJ_3, zuP_1, zuP_2, zuP_3, zuC_1, zuC_2, reduceIte, Nat.reduceEqDiff, false_and, and_false, true_and, and_true, and_self, or_true, true_or, or_false, false_or]; omega)⟩
        · skip
          refine zs_iload_n (pc := 227) C dX6_readSign_227 rfl ?_
          refine zs_bipush (pc := 228) C dX6_readSign_228 (by decide) (by decide) ?_
          refine zs_icmp_ne (tgt := 237) (pc := 230) C dX6_readSign_230 (by decide) (fun h230 => ?_) (fun h230 => ?_)
          · skip
            refine zs_iconst (pc := 237) C dX6_readSign_237 (by decide) ?_
            first | refine zs_iadd (pc := 238) C dX6_readSign_238 (by omega) ?_ | refine zs_iaddF (pc := 238) C dX6_readSign_238 (fun z238 hz2381 hz2382 => ?_)
            refine zs_puti (r := 706) (pc := 239) C dX6_readSign_239 w_X6_60 f_7_6 rfl (r_706 0) (by omega) ?_
            refine zs_goto (tgt := 292) (pc := 242) C dX6_readSign_242 (by decide) ?_
            exact zs_vret (pc := 292) C hr hlk dX6_readSign_292 ⟨by repeat (first | exact zsm_rf | assumption | refine zsm_C (by decide) ?_ | refine zsm_I (by decide) ?_ | refine zsm_J ?_ | refine zsm_c (by assumption) (by decide) ?_), by first | omega | (simp only [zuI_1, zuI_2, zuJ_1, zuJ_2, zuJ_3, zuP_1, zuP_2, zuP_3, zuC_1, zuC_2, reduceIte, Nat.reduceEqDiff, false_and, and_false, true_and, and_true, and_self, or_true, true_or, or_false, false_or]; omega)⟩
          · skip
            refine zs_iconst (pc := 233) C dX6_readSign_233 (by decide) ?_
            refine zs_goto (tgt := 238) (pc := 234) C dX6_readSign_234 (by decide) ?_
            first | refine zs_iadd (pc := 238) C dX6_readSign_238 (by omega) ?_ | refine zs_iaddF (pc := 238) C dX6_readSign_238 (fun z238 hz2381 hz2382 => ?_)
            refine zs_puti (r := 706) (pc := 239) C dX6_readSign_239 w_X6_60 f_7_6 rfl (r_706 0) (by omega) ?_
            refine zs_goto (tgt := 292) (pc := 242) C dX6_readSign_242 (by decide) ?_
            exact zs_vret (pc := 292) C hr hlk dX6_readSign_292 ⟨by repeat (first | exact zsm_rf | assumption | refine zsm_C (by decide) ?_ | refine zsm_I (by decide) ?_ | refine zsm_J ?_ | refine zsm_c (by assumption) (by decide) ?_), by first | omega | (simp only [zuI_1, zuI_2, zuJ_1, zuJ_2, zuJ_3, zuP_1, zuP_2, zuP_3, zuC_1, zuC_2, reduceIte, Nat.reduceEqDiff, false_and, and_false, true_and, and_true, and_self, or_true, true_or, or_false, false_or]; omega)⟩
      · skip
        refine zs_bipush (pc := 207) C dX6_readSign_207 (by decide) (by decide) ?_
        refine zs_goto (tgt := 213) (pc := 209) C dX6_readSign_209 (by decide) ?_
        refine zVv2 (pc := 213) C dX6_readSign_213 v_X6_81 (c_X6_add hX ) (by decide) (by decide) ⟨Nat.zero_le _, Nat.zero_le _⟩ (Nat.le_of_ble_eq_true rfl) (fun G213 hp213 => ?_)
        obtain ⟨hz213, hq213⟩ := hp213
        have tr213_706 := zsm_at hz213 706 w 0 (by decide)
        try simp only [zuI_1, zuI_2, zuJ_1, zuJ_2, zuJ_3, zuP_1, zuP_2, zuP_3, zuC_1, zuC_2, reduceIte, Nat.reduceEqDiff, false_and, and_false, true_and, and_true, and_self, or_true, true_or, or_false, false_or] at tr213_706
        refine zs_aload_n (pc := 216) C dX6_readSign_216 rfl ?_
        refine zs_dupa (pc := 217) C dX6_readSign_217 ?_
        refine zs_geti (r := 706) (pc := 218) C dX6_readSign_218 w_X6_60 f_7_6 rfl (r_706 0) (fun v218 e218 l218 u218 => ?_)
        refine zs_iload_n (pc := 221) C dX6_readSign_221 rfl ?_
        refine zs_bipush (pc := 222) C dX6_readSign_222 (by decide) (by decide) ?_
        refine zs_icmp_eq (tgt := 233) (pc := 224) C dX6_readSign_224 (by decide) (fun h224 => ?_) (fun h224 => ?_)
        · skip
          refine zs_iconst (pc := 233) C dX6_readSign_233 (by decide) ?_
          refine zs_goto (tgt := 238) (pc := 234) C dX6_readSign_234 (by decide) ?_
          first | refine zs_iadd (pc := 238) C dX6_readSign_238 (by omega) ?_ | refine zs_iaddF (pc := 238) C dX6_readSign_238 (fun z238 hz2381 hz2382 => ?_)
          refine zs_puti (r := 706) (pc := 239) C dX6_readSign_239 w_X6_60 f_7_6 rfl (r_706 0) (by omega) ?_
          refine zs_goto (tgt := 292) (pc := 242) C dX6_readSign_242 (by decide) ?_
          exact zs_vret (pc := 292) C hr hlk dX6_readSign_292 ⟨by repeat (first | exact zsm_rf | assumption | refine zsm_C (by decide) ?_ | refine zsm_I (by decide) ?_ | refine zsm_J ?_ | refine zsm_c (by assumption) (by decide) ?_), by first | omega | (simp only [zuI_1, zuI_2, zuJ_1, zuJ_2, zuJ_3, zuP_1, zuP_2, zuP_3, zuC_1, zuC_2, reduceIte, Nat.reduceEqDiff, false_and, and_false, true_and, and_true, and_self, or_true, true_or, or_false, false_or]; omega)⟩
        · skip
          refine zs_iload_n (pc := 227) C dX6_readSign_227 rfl ?_
          refine zs_bipush (pc := 228) C dX6_readSign_228 (by decide) (by decide) ?_
          refine zs_icmp_ne (tgt := 237) (pc := 230) C dX6_readSign_230 (by decide) (fun h230 => ?_) (fun h230 => ?_)
          · skip
            refine zs_iconst (pc := 237) C dX6_readSign_237 (by decide) ?_
            first | refine zs_iadd (pc := 238) C dX6_readSign_238 (by omega) ?_ | refine zs_iaddF (pc := 238) C dX6_readSign_238 (fun z238 hz2381 hz2382 => ?_)
            refine zs_puti (r := 706) (pc := 239) C dX6_readSign_239 w_X6_60 f_7_6 rfl (r_706 0) (by omega) ?_
            refine zs_goto (tgt := 292) (pc := 242) C dX6_readSign_242 (by decide) ?_
            exact zs_vret (pc := 292) C hr hlk dX6_readSign_292 ⟨by repeat (first | exact zsm_rf | assumption | refine zsm_C (by decide) ?_ | refine zsm_I (by decide) ?_ | refine zsm_J ?_ | refine zsm_c (by assumption) (by decide) ?_), by first | omega | (simp only [zuI_1, zuI_2, zuJ_1, zuJ_2, zuJ_3, zuP_1, zuP_2, zuP_3, zuC_1, zuC_2, reduceIte, Nat.reduceEqDiff, false_and, and_false, true_and, and_true, and_self, or_true, true_or, or_false, false_or]; omega)⟩
          · skip
            refine zs_iconst (pc := 233) C dX6_readSign_233 (by decide) ?_
            refine zs_goto (tgt := 238) (pc := 234) C dX6_readSign_234 (by decide) ?_
            first | refine zs_iadd (pc := 238) C dX6_readSign_238 (by omega) ?_ | refine zs_iaddF (pc := 238) C dX6_readSign_238 (fun z238 hz2381 hz2382 => ?_)
            refine zs_puti (r := 706) (pc := 239) C dX6_readSign_239 w_X6_60 f_7_6 rfl (r_706 0) (by omega) ?_
            refine zs_goto (tgt := 292) (pc := 242) C dX6_readSign_242 (by decide) ?_
            exact zs_vret (pc := 292) C hr hlk dX6_readSign_292 ⟨by repeat (first | exact zsm_rf | assumption | refine zsm_C (by decide) ?_ | refine zsm_I (by decide) ?_ | refine zsm_J ?_ | refine zsm_c (by assumption) (by decide) ?_), by first | omega | (simp only [zuI_1, zuI_2, zuJ_1, zuJ_2, zuJ_3, zuP_1, zuP_2, zuP_3, zuC_1, zuC_2, reduceIte, Nat.reduceEqDiff, false_and, and_false, true_and, and_true, and_self, or_true, true_or, or_false, false_or]; omega)⟩
    · skip
      refine zs_bipush (pc := 196) C dX6_readSign_196 (by decide) (by decide) ?_
      refine zs_goto (tgt := 213) (pc := 198) C dX6_readSign_198 (by decide) ?_
      refine zVv2 (pc := 213) C dX6_readSign_213 v_X6_81 (c_X6_add hX ) (by decide) (by decide) ⟨Nat.zero_le _, Nat.zero_le _⟩ (Nat.le_of_ble_eq_true rfl) (fun G213 hp213 => ?_)
      obtain ⟨hz213, hq213⟩ := hp213
      have tr213_706 := zsm_at hz213 706 w 0 (by decide)
      try simp only [zuI_1, zuI_2, zuJ_1, zuJ_2, zuJ_3, zuP_1, zuP_2, zuP_3, zuC_1, zuC_2, reduceIte, Nat.reduceEqDiff, false_and, and_false, true_and, and_true, and_self, or_true, true_or, or_false, false_or] at tr213_706
      refine zs_aload_n (pc := 216) C dX6_readSign_216 rfl ?_
      refine zs_dupa (pc := 217) C dX6_readSign_217 ?_
      refine zs_geti (r := 706) (pc := 218) C dX6_readSign_218 w_X6_60 f_7_6 rfl (r_706 0) (fun v218 e218 l218 u218 => ?_)
      refine zs_iload_n (pc := 221) C dX6_readSign_221 rfl ?_
      refine zs_bipush (pc := 222) C dX6_readSign_222 (by decide) (by decide) ?_
      refine zs_icmp_eq (tgt := 233) (pc := 224) C dX6_readSign_224 (by decide) (fun h224 => ?_) (fun h224 => ?_)
      · skip
        refine zs_iconst (pc := 233) C dX6_readSign_233 (by decide) ?_
        refine zs_goto (tgt := 238) (pc := 234) C dX6_readSign_234 (by decide) ?_
        first | refine zs_iadd (pc := 238) C dX6_readSign_238 (by omega) ?_ | refine zs_iaddF (pc := 238) C dX6_readSign_238 (fun z238 hz2381 hz2382 => ?_)
        refine zs_puti (r := 706) (pc := 239) C dX6_readSign_239 w_X6_60 f_7_6 rfl (r_706 0) (by omega) ?_
        refine zs_goto (tgt := 292) (pc := 242) C dX6_readSign_242 (by decide) ?_
        exact zs_vret (pc := 292) C hr hlk dX6_readSign_292 ⟨by repeat (first | exact zsm_rf | assumption | refine zsm_C (by decide) ?_ | refine zsm_I (by decide) ?_ | refine zsm_J ?_ | refine zsm_c (by assumption) (by decide) ?_), by first | omega | (simp only [zuI_1, zuI_2, zuJ_1, zuJ_2, zuJ_3, zuP_1, zuP_2, zuP_3, zuC_1, zuC_2, reduceIte, Nat.reduceEqDiff, false_and, and_false, true_and, and_true, and_self, or_true, true_or, or_false, false_or]; omega)⟩
      · skip
        refine zs_iload_n (pc := 227) C dX6_readSign_227 rfl ?_
        refine zs_bipush (pc := 228) C dX6_readSign_228 (by decide) (by decide) ?_
        refine zs_icmp_ne (tgt := 237) (pc := 230) C dX6_readSign_230 (by decide) (fun h230 => ?_) (fun h230 => ?_)
        · skip
          refine zs_iconst (pc := 237) C dX6_readSign_237 (by decide) ?_
          first | refine zs_iadd (pc := 238) C dX6_readSign_238 (by omega) ?_ | refine zs_iaddF (pc := 238) C dX6_readSign_238 (fun z238 hz2381 hz2382 => ?_)
          refine zs_puti (r := 706) (pc := 239) C dX6_readSign_239 w_X6_60 f_7_6 rfl (r_706 0) (by omega) ?_
          refine zs_goto (tgt := 292) (pc := 242) C dX6_readSign_242 (by decide) ?_
          exact zs_vret (pc := 292) C hr hlk dX6_readSign_292 ⟨by repeat (first | exact zsm_rf | assumption | refine zsm_C (by decide) ?_ | refine zsm_I (by decide) ?_ | refine zsm_J ?_ | refine zsm_c (by assumption) (by decide) ?_), by first | omega | (simp only [zuI_1, zuI_2, zuJ_1, zuJ_2, zuJ_3, zuP_1, zuP_2, zuP_3, zuC_1, zuC_2, reduceIte, Nat.reduceEqDiff, false_and, and_false, true_and, and_true, and_self, or_true, true_or, or_false, false_or]; omega)⟩
        · skip
          refine zs_iconst (pc := 233) C dX6_readSign_233 (by decide) ?_
          refine zs_goto (tgt := 238) (pc := 234) C dX6_readSign_234 (by decide) ?_
          first | refine zs_iadd (pc := 238) C dX6_readSign_238 (by omega) ?_ | refine zs_iaddF (pc := 238) C dX6_readSign_238 (fun z238 hz2381 hz2382 => ?_)
          refine zs_puti (r := 706) (pc := 239) C dX6_readSign_239 w_X6_60 f_7_6 rfl (r_706 0) (by omega) ?_
          refine zs_goto (tgt := 292) (pc := 242) C dX6_readSign_242 (by decide) ?_
          exact zs_vret (pc := 292) C hr hlk dX6_readSign_292 ⟨by repeat (first | exact zsm_rf | assumption | refine zsm_C (by decide) ?_ | refine zsm_I (by decide) ?_ | refine zsm_J ?_ | refine zsm_c (by assumption) (by decide) ?_), by first | omega | (simp only [zuI_1, zuI_2, zuJ_1, zuJ_2, zuJ_3, zuP_1, zuP_2, zuP_3, zuC_1, zuC_2, reduceIte, Nat.reduceEqDiff, false_and, and_false, true_and, and_true, and_self, or_true, true_or, or_false, false_or]; omega)⟩
  · skip
    refine zs_tabIn (pc := 1) (tgt := 178) C 61 dX6_readSign_1 h1 (by decide) rfl (by decide) ?_
    refine zs_aload_n (pc := 178) C dX6_readSign_178 rfl ?_
    refine zs_iconst (pc := 179) C dX6_readSign_179 (by decide) ?_
    refine zs_bipush (pc := 180) C dX6_readSign_180 (by decide) (by decide) ?_
    refine zVv2 (pc := 182) C dX6_readSign_182 v_X6_81 (c_X6_add hX ) (by decide) (by decide) ⟨Nat.zero_le _, Nat.zero_le _⟩ (Nat.le_of_ble_eq_true rfl) (fun G182 hp182 => ?_)
    obtain ⟨hz182, hq182⟩ := hp182
    have tr182_706 := zsm_at hz182 706 w 0 (by decide)
    try simp only [zuI_1, zuI_2, zuJ_1, zuJ_2, zuJ_3, zuP_1, zuP_2, zuP_3, zuC_1, zuC_2, reduceIte, Nat.reduceEqDiff, false_and, and_false, true_and, and_true, and_self, or_true, true_or, or_false, false_or] at tr182_706
    refine zs_goto (tgt := 292) (pc := 185) C dX6_readSign_185 (by decide) ?_
    exact zs_vret (pc := 292) C hr hlk dX6_readSign_292 ⟨by repeat (first | exact zsm_rf | assumption | refine zsm_C (by decide) ?_ | refine zsm_I (by decide) ?_ | refine zsm_J ?_ | refine zsm_c (by assumption) (by decide) ?_), by first | omega | (simp only [zuI_1, zuI_2, zuJ_1, zuJ_2, zuJ_3, zuP_1, zuP_2, zuP_3, zuC_1, zuC_2, reduceIte, Nat.reduceEqDiff, false_and, and_false, true_and, and_true, and_self, or_true, true_or, or_false, false_or]; omega)⟩
  · skip
    refine zs_tabIn (pc := 1) (tgt := 245) C 62 dX6_readSign_1 h1 (by decide) rfl (by decide) ?_
    refine zs_aload_n (pc := 245) C dX6_readSign_245 rfl ?_
    refine zs_iconst (pc := 246) C dX6_readSign_246 (by decide) ?_
    refine zs_iload_n (pc := 247) C dX6_readSign_247 rfl ?_
    refine zs_bipush (pc := 248) C dX6_readSign_248 (by decide) (by decide) ?_
    refine zs_icmp_ne (tgt := 258) (pc := 250) C dX6_readSign_250 (by decide) (fun h250 => ?_) (fun h250 => ?_)
    · skip
      refine zs_bipush (pc := 258) C dX6_readSign_258 (by decide) (by decide) ?_
      refine zVv2 (pc := 260) C dX6_readSign_260 v_X6_81 (c_X6_add hX ) (by decide) (by decide) ⟨Nat.zero_le _, Nat.zero_le _⟩ (Nat.le_of_ble_eq_true rfl) (fun G260 hp260 => ?_)
      obtain ⟨hz260, hq260⟩ := hp260
      have tr260_706 := zsm_at hz260 706 w 0 (by decide)
      try simp only [zuI_1, zuI_2, zuJ_1, zuJ_2, zuJ_3, zuP_1, zuP_2, zuP_3, zuC_1, zuC_2, reduceIte, Nat.reduceEqDiff, false_and, and_false, true_and, and_true, and_self, or_true, true_or, or_false, false_or] at tr260_706
      refine zs_aload_n (pc := 263) C dX6_readSign_263 rfl ?_
      refine zs_dupa (pc := 264) C dX6_readSign_264 ?_
      refine zs_geti (r := 706) (pc := 265) C dX6_readSign_265 w_X6_60 f_7_6 rfl (r_706 0) (fun v265 e265 l265 u265 => ?_)
      refine zs_iload_n (pc := 268) C dX6_readSign_268 rfl ?_
      refine zs_bipush (pc := 269) C dX6_readSign_269 (by decide) (by decide) ?_
      refine zs_icmp_ne (tgt := 278) (pc := 271) C dX6_readSign_271 (by decide) (fun h271 => ?_) (fun h271 => ?_)
      · skip
        refine zs_iconst (pc := 278) C dX6_readSign_278 (by decide) ?_
        first | refine zs_iadd (pc := 279) C dX6_readSign_279 (by omega) ?_ | refine zs_iaddF (pc := 279) C dX6_readSign_279 (fun z279 hz2791 hz2792 => ?_)
        refine zs_puti (r := 706) (pc := 280) C dX6_readSign_280 w_X6_60 f_7_6 rfl (r_706 0) (by omega) ?_
        refine zs_goto (tgt := 292) (pc := 283) C dX6_readSign_283 (by decide) ?_
        exact zs_vret (pc := 292) C hr hlk dX6_readSign_292 ⟨by repeat (first | exact zsm_rf | assumption | refine zsm_C (by decide) ?_ | refine zsm_I (by decide) ?_ | refine zsm_J ?_ | refine zsm_c (by assumption) (by decide) ?_), by first | omega | (simp only [zuI_1, zuI_2, zuJ_1, zuJ_2, zuJ_3, zuP_1, zuP_2, zuP_3, zuC_1, zuC_2, reduceIte, Nat.reduceEqDiff, false_and, and_false, true_and, and_true, and_self, or_true, true_or, or_false, false_or]; omega)⟩
      · skip
        refine zs_iconst (pc := 274) C dX6_readSign_274 (by decide) ?_
        refine zs_goto (tgt := 279) (pc := 275) C dX6_readSign_275 (by decide) ?_
        first | refine zs_iadd (pc := 279) C dX6_readSign_279 (by omega) ?_ | refine zs_iaddF (pc := 279) C dX6_readSign_279 (fun z279 hz2791 hz2792 => ?_)
        refine zs_puti (r := 706) (pc := 280) C dX6_readSign_280 w_X6_60 f_7_6 rfl (r_706 0) (by omega) ?_
        refine zs_goto (tgt := 292) (pc := 283) C dX6_readSign_283 (by decide) ?_
        exact zs_vret (pc := 292) C hr hlk dX6_readSign_292 ⟨by repeat (first | exact zsm_rf | assumption | refine zsm_C (by decide) ?_ | refine zsm_I (by decide) ?_ | refine zsm_J ?_ | refine zsm_c (by assumption) (by decide) ?_), by first | omega | (simp only [zuI_1, zuI_2, zuJ_1, zuJ_2, zuJ_3, zuP_1, zuP_2, zuP_3, zuC_1, zuC_2, reduceIte, Nat.reduceEqDiff, false_and, and_false, true_and, and_true, and_self, or_true, true_or, or_false, false_or]; omega)⟩
    · skip
      refine zs_bipush (pc := 253) C dX6_readSign_253 (by decide) (by decide) ?_
      refine zs_goto (tgt := 260) (pc := 255) C dX6_readSign_255 (by decide) ?_
      refine zVv2 (pc := 260) C dX6_readSign_260 v_X6_81 (c_X6_add hX ) (by decide) (by decide) ⟨Nat.zero_le _, Nat.zero_le _⟩ (Nat.le_of_ble_eq_true rfl) (fun G260 hp260 => ?_)
      obtain ⟨hz260, hq260⟩ := hp260
      have tr260_706 := zsm_at hz260 706 w 0 (by decide)
      try simp only [zuI_1, zuI_2, zuJ_1, zuJ_2, zuJ_3, zuP_1, zuP_2, zuP_3, zuC_1, zuC_2, reduceIte, Nat.reduceEqDiff, false_and, and_false, true_and, and_true, and_self, or_true, true_or, or_false, false_or] at tr260_706
      refine zs_aload_n (pc := 263) C dX6_readSign_263 rfl ?_
      refine zs_dupa (pc := 264) C dX6_readSign_264 ?_
      refine zs_geti (r := 706) (pc := 265) C dX6_readSign_265 w_X6_60 f_7_6 rfl (r_706 0) (fun v265 e265 l265 u265 => ?_)
      refine zs_iload_n (pc := 268) C dX6_readSign_268 rfl ?_
      refine zs_bipush (pc := 269) C dX6_readSign_269 (by decide) (by decide) ?_
      refine zs_icmp_ne (tgt := 278) (pc := 271) C dX6_readSign_271 (by decide) (fun h271 => ?_) (fun h271 => ?_)
      · skip
        refine zs_iconst (pc := 278) C dX6_readSign_278 (by decide) ?_
        first | refine zs_iadd (pc := 279) C dX6_readSign_279 (by omega) ?_ | refine zs_iaddF (pc := 279) C dX6_readSign_279 (fun z279 hz2791 hz2792 => ?_)
        refine zs_puti (r := 706) (pc := 280) C dX6_readSign_280 w_X6_60 f_7_6 rfl (r_706 0) (by omega) ?_
        refine zs_goto (tgt := 292) (pc := 283) C dX6_readSign_283 (by decide) ?_
        exact zs_vret (pc := 292) C hr hlk dX6_readSign_292 ⟨by repeat (first | exact zsm_rf | assumption | refine zsm_C (by decide) ?_ | refine zsm_I (by decide) ?_ | refine zsm_J ?_ | refine zsm_c (by assumption) (by decide) ?_), by first | omega | (simp only [zuI_1, zuI_2, zuJ_1, zuJ_2, zuJ_3, zuP_1, zuP_2, zuP_3, zuC_1, zuC_2, reduceIte, Nat.reduceEqDiff, false_and, and_false, true_and, and_true, and_self, or_true, true_or, or_false, false_or]; omega)⟩
      · skip
        refine zs_iconst (pc := 274) C dX6_readSign_274 (by decide) ?_
        refine zs_goto (tgt := 279) (pc := 275) C dX6_readSign_275 (by decide) ?_
        first | refine zs_iadd (pc := 279) C dX6_readSign_279 (by omega) ?_ | refine zs_iaddF (pc := 279) C dX6_readSign_279 (fun z279 hz2791 hz2792 => ?_)
        refine zs_puti (r := 706) (pc := 280) C dX6_readSign_280 w_X6_60 f_7_6 rfl (r_706 0) (by omega) ?_
        refine zs_goto (tgt := 292) (pc := 283) C dX6_readSign_283 (by decide) ?_
        exact zs_vret (pc := 292) C hr hlk dX6_readSign_292 ⟨by repeat (first | exact zsm_rf | assumption | refine zsm_C (by decide) ?_ | refine zsm_I (by decide) ?_ | refine zsm_J ?_ | refine zsm_c (by assumption) (by decide) ?_), by first | omega | (simp only [zuI_1, zuI_2, zuJ_1, zuJ_2, zuJ_3, zuP_1, zuP_2, zuP_3, zuC_1, zuC_2, reduceIte, Nat.reduceEqDiff, false_and, and_false, true_and, and_true, and_self, or_true, true_or, or_false, false_or]; omega)⟩
  · skip
    refine zs_tabOut (tgt := 286) (pc := 1) C dX6_readSign_1 h1 (by decide) ?_
    refine zs_aload_n (pc := 286) C dX6_readSign_286 rfl ?_
    refine zs_iconst (pc := 287) C dX6_readSign_287 (by decide) ?_
    refine zs_iconst (pc := 288) C dX6_readSign_288 (by decide) ?_
    refine zVv2 (pc := 289) C dX6_readSign_289 v_X6_81 (c_X6_add hX ) (by decide) (by decide) ⟨Nat.zero_le _, Nat.zero_le _⟩ (Nat.le_of_ble_eq_true rfl) (fun G289 hp289 => ?_)
    obtain ⟨hz289, hq289⟩ := hp289
    have tr289_706 := zsm_at hz289 706 w 0 (by decide)
    try simp only [zuI_1, zuI_2, zuJ_1, zuJ_2, zuJ_3, zuP_1, zuP_2, zuP_3, zuC_1, zuC_2, reduceIte, Nat.reduceEqDiff, false_and, and_false, true_and, and_true, and_self, or_true, true_or, or_false, false_or] at tr289_706
    exact zs_vret (pc := 292) C hr hlk dX6_readSign_292 ⟨by repeat (first | exact zsm_rf | assumption | refine zsm_C (by decide) ?_ | refine zsm_I (by decide) ?_ | refine zsm_J ?_ | refine zsm_c (by assumption) (by decide) ?_), by first | omega | (simp only [zuI_1, zuI_2, zuJ_1, zuJ_2, zuJ_3, zuP_1, zuP_2, zuP_3, zuC_1, zuC_2, reduceIte, Nat.reduceEqDiff, false_and, and_false, true_and, and_true, and_self, or_true, true_or, or_false, false_or]; omega)⟩

set_option maxHeartbeats 4000000 in
set_option maxRecDepth 100000 in
theorem c_X6_readAll {l : Launch} {Γ : zΓ} {G : zH} {w b : Nat} {k : Int} (hX : zXs Γ)  : zMet l Γ yX6_readAll cX6_readAll 5 none 2 [zr 7 w, zr 55 b, zi k] G (zpv (fun G' => zsm [704, 705, 706, 2045, 2046, 2047] G G' ∧ (1 ≤ G'.1 704 w 0))) := by
  refine zMet_of RX6 hX (by decide) rfl (Nat.le_of_ble_eq_true rfl) ?_
  intro p e s m args below meth c C hr hlk
  show Z p l e (zrm 2) s m args below meth c Γ 5 0 0 (MQ below (zQc Γ (zpv (fun G' => zsm [704, 705, 706, 2045, 2046, 2047] G G' ∧ (1 ≤ G'.1 704 w 0)))) args s 0 0 (zA Γ)) 0 [some (zr 7 w), some (zr 55 b), some (zi k), none, none] [] G
  refine zs_loc 2 rfl (fun ha2 hb2 => ?_)
  refine zs_aload_n (pc := 0) C dX6_readAll_0 rfl ?_
  refine zs_iconst (pc := 1) C dX6_readAll_1 (by decide) ?_
  refine zs_sipush (pc := 2) C dX6_readAll_2 (by decide) (by decide) ?_
  refine zs_iload_n (pc := 5) C dX6_readAll_5 rfl ?_
  refine zs_aload_n (pc := 6) C dX6_readAll_6 rfl ?_
  refine zs_alen (pc := 7) C dX6_readAll_7 a_55 (by decide) (by decide) ?_
  refine zs_minI (pc := 8) C dX6_readAll_8 s_X6_46 (by decide) (Nat.le_of_ble_eq_true rfl) ⟨Nat.zero_le _, Nat.zero_le _⟩ (fun z8 hz8 => ?_)
  refine zs_minI (pc := 11) C dX6_readAll_11 s_X6_46 (by decide) (Nat.le_of_ble_eq_true rfl) ⟨Nat.zero_le _, Nat.zero_le _⟩ (fun z11 hz11 => ?_)
  refine zs_maxI (pc := 14) C dX6_readAll_14 s_X6_51 (by decide) (Nat.le_of_ble_eq_true rfl) ⟨Nat.zero_le _, Nat.zero_le _⟩ (fun z14 hz14 => ?_)
  refine zs_puti (r := 705) (pc := 17) C dX6_readAll_17 w_X6_54 f_7_5 rfl (r_705 0) (by omega) ?_
  refine zs_aload_n (pc := 20) C dX6_readAll_20 rfl ?_
  refine zs_iconst (pc := 21) C dX6_readAll_21 (by decide) ?_
  refine zs_puti (r := 704) (pc := 22) C dX6_readAll_22 w_X6_57 f_7_4 rfl (r_704 0) (by omega) ?_
  refine zs_aload_n (pc := 25) C dX6_readAll_25 rfl ?_
  refine zs_iconst (pc := 26) C dX6_readAll_26 (by decide) ?_
  refine zs_puti (r := 706) (pc := 27) C dX6_readAll_27 w_X6_60 f_7_6 rfl (r_706 0) (by omega) ?_
  refine zs_iconst (pc := 30) C dX6_readAll_30 (by decide) ?_
  refine zs_istore_n (pc := 31) C dX6_readAll_31 (by decide) ?_
  dsimp only [zset, zclr, znone]
  have L32 : ∀ (nn : Nat) (x3 : Int) (G1 : zH), (0 ≤ x3 ∧ x3 ≤ 700) → (G1.1 704 w 0 ≤ x3) → (zsm [704, 705, 706, 2045, 2046, 2047] G G1) → (700 - x3).toNat < nn → Z p l e (zrm 2) s m args below meth c Γ 5 0 0 (MQ below (zQc Γ (zpv (fun G' => zsm [704, 705, 706, 2045, 2046, 2047] G G' ∧ (1 ≤ G'.1 704 w 0)))) args s 0 0 (zA Γ)) 32 [some (zr 7 w), some (zr 55 b), some (zi k), some (zi x3), none] [] G1 := by
    intro nn
    induction nn with
    | zero => intro x3 G1 h32_0 h32_1 h32_2 hm; exact absurd hm (Nat.not_lt_zero _)
    | succ nn ih32 =>
      intro x3 G1 h32_0 h32_1 h32_2 hm32
      refine zs_iload_n (pc := 32) C dX6_readAll_32 rfl ?_
      refine zs_sipush (pc := 33) C dX6_readAll_33 (by decide) (by decide) ?_
      refine zs_icmp_ge (tgt := 173) (pc := 36) C dX6_readAll_36 (by decide) (fun h36 => ?_) (fun h36 => ?_)
      · skip
        refine zs_aload_n (pc := 173) C dX6_readAll_173 rfl ?_
        refine zs_getf (pc := 174) C dX6_readAll_174 w_X6_18 f_7_2 (by decide) ?_
        refine zs_aload_n (pc := 177) C dX6_readAll_177 rfl ?_
        refine zs_geti (r := 704) (pc := 178) C dX6_readAll_178 w_X6_57 f_7_4 rfl (r_704 0) (fun v178 e178 l178 u178 => ?_)
        refine zs_aload_n (pc := 181) C dX6_readAll_181 rfl ?_
        refine zs_geti (r := 705) (pc := 182) C dX6_readAll_182 w_X6_54 f_7_5 rfl (r_705 0) (fun v182 e182 l182 u182 => ?_)
        refine zs_iast (r := 2046) (pc := 185) C dX6_readAll_185 a_46 (by decide) (by omega) rfl (r_2046 _) (by omega) ?_
        refine zs_aload_n (pc := 186) C dX6_readAll_186 rfl ?_
        refine zs_iconst (pc := 187) C dX6_readAll_187 (by decide) ?_
        refine zs_iconst (pc := 188) C dX6_readAll_188 (by decide) ?_
        refine zVv2 (pc := 189) C dX6_readAll_189 v_X6_81 (c_X6_add hX ) (by decide) (by decide) ⟨Nat.zero_le _, Nat.zero_le _⟩ (Nat.le_of_ble_eq_true rfl) (fun G189 hp189 => ?_)
        obtain ⟨hz189, hq189⟩ := hp189
        try simp only [zuI_1, zuI_2, zuJ_1, zuJ_2, zuJ_3, zuP_1, zuP_2, zuP_3, zuC_1, zuC_2, reduceIte, Nat.reduceEqDiff, false_and, and_false, true_and, and_true, and_self, or_true, true_or, or_false, false_or] at hq189
        exact zs_vret (pc := 192) C hr hlk dX6_readAll_192 ⟨by repeat (first | exact zsm_rf | assumption | refine zsm_C (by decide) ?_ | refine zsm_I (by decide) ?_ | refine zsm_J ?_ | refine zsm_c (by assumption) (by decide) ?_), by first | omega | (simp only [zuI_1, zuI_2, zuJ_1, zuJ_2, zuJ_3, zuP_1, zuP_2, zuP_3, zuC_1, zuC_2, reduceIte, Nat.reduceEqDiff, false_and, and_false, true_and, and_true, and_self, or_true, true_or, or_false, false_or]; omega)⟩
      · skip
        refine zs_aload_n (pc := 39) C dX6_readAll_39 rfl ?_
        refine zs_geti (r := 706) (pc := 40) C dX6_readAll_40 w_X6_60 f_7_6 rfl (r_706 0) (fun v40 e40 l40 u40 => ?_)
        refine zs_aload_n (pc := 43) C dX6_readAll_43 rfl ?_
        refine zs_geti (r := 705) (pc := 44) C dX6_readAll_44 w_X6_54 f_7_5 rfl (r_705 0) (fun v44 e44 l44 u44 => ?_)
        refine zs_icmp_ge (tgt := 173) (pc := 47) C dX6_readAll_47 (by decide) (fun h47 => ?_) (fun h47 => ?_)
        · skip
          refine zs_aload_n (pc := 173) C dX6_readAll_173 rfl ?_
          refine zs_getf (pc := 174) C dX6_readAll_174 w_X6_18 f_7_2 (by decide) ?_
          refine zs_aload_n (pc := 177) C dX6_readAll_177 rfl ?_
          refine zs_geti (r := 704) (pc := 178) C dX6_readAll_178 w_X6_57 f_7_4 rfl (r_704 0) (fun v178 e178 l178 u178 => ?_)
          refine zs_aload_n (pc := 181) C dX6_readAll_181 rfl ?_
          refine zs_geti (r := 705) (pc := 182) C dX6_readAll_182 w_X6_54 f_7_5 rfl (r_705 0) (fun v182 e182 l182 u182 => ?_)
          refine zs_iast (r := 2046) (pc := 185) C dX6_readAll_185 a_46 (by decide) (by omega) rfl (r_2046 _) (by omega) ?_
          refine zs_aload_n (pc := 186) C dX6_readAll_186 rfl ?_
          refine zs_iconst (pc := 187) C dX6_readAll_187 (by decide) ?_
          refine zs_iconst (pc := 188) C dX6_readAll_188 (by decide) ?_
          refine zVv2 (pc := 189) C dX6_readAll_189 v_X6_81 (c_X6_add hX ) (by decide) (by decide) ⟨Nat.zero_le _, Nat.zero_le _⟩ (Nat.le_of_ble_eq_true rfl) (fun G189 hp189 => ?_)
          obtain ⟨hz189, hq189⟩ := hp189
          try simp only [zuI_1, zuI_2, zuJ_1, zuJ_2, zuJ_3, zuP_1, zuP_2, zuP_3, zuC_1, zuC_2, reduceIte, Nat.reduceEqDiff, false_and, and_false, true_and, and_true, and_self, or_true, true_or, or_false, false_or] at hq189
          exact zs_vret (pc := 192) C hr hlk dX6_readAll_192 ⟨by repeat (first | exact zsm_rf | assumption | refine zsm_C (by decide) ?_ | refine zsm_I (by decide) ?_ | refine zsm_J ?_ | refine zsm_c (by assumption) (by decide) ?_), by first | omega | (simp only [zuI_1, zuI_2, zuJ_1, zuJ_2, zuJ_3, zuP_1, zuP_2, zuP_3, zuC_1, zuC_2, reduceIte, Nat.reduceEqDiff, false_and, and_false, true_and, and_true, and_self, or_true, true_or, or_false, false_or]; omega)⟩
        · skip
          refine zs_aload_n (pc := 50) C dX6_readAll_50 rfl ?_
          refine zs_aload_n (pc := 51) C dX6_readAll_51 rfl ?_
          refine zs_geti (r := 706) (pc := 52) C dX6_readAll_52 w_X6_60 f_7_6 rfl (r_706 0) (fun v52 e52 l52 u52 => ?_)
          refine zs_iald (r := 2055) (pc := 55) C dX6_readAll_55 a_55 (by decide) (by omega) rfl (r_2055 _) (fun v55 e55 l55 u55 => ?_)
          refine zs_istore (pc := 56) C dX6_readAll_56 (by decide) ?_
          dsimp only [zset, zclr, znone]
          refine zs_aload_n (pc := 58) C dX6_readAll_58 rfl ?_
          refine zs_getf (pc := 59) C dX6_readAll_59 w_X6_18 f_7_2 (by decide) ?_
          refine zs_aload_n (pc := 62) C dX6_readAll_62 rfl ?_
          refine zs_geti (r := 704) (pc := 63) C dX6_readAll_63 w_X6_57 f_7_4 rfl (r_704 0) (fun v63 e63 l63 u63 => ?_)
          refine zs_aload_n (pc := 66) C dX6_readAll_66 rfl ?_
          refine zs_geti (r := 706) (pc := 67) C dX6_readAll_67 w_X6_60 f_7_6 rfl (r_706 0) (fun v67 e67 l67 u67 => ?_)
          refine zs_iast (r := 2046) (pc := 70) C dX6_readAll_70 a_46 (by decide) (by omega) rfl (r_2046 _) (by omega) ?_
          refine zs_iload (pc := 71) C dX6_readAll_71 rfl ?_
          refine zs_bipush (pc := 73) C dX6_readAll_73 (by decide) (by decide) ?_
          refine zs_icmp_eq (tgt := 85) (pc := 75) C dX6_readAll_75 (by decide) (fun h75 => ?_) (fun h75 => ?_)
          · skip
            refine zs_aload_n (pc := 85) C dX6_readAll_85 rfl ?_
            refine zs_dupa (pc := 86) C dX6_readAll_86 ?_
            refine zs_geti (r := 706) (pc := 87) C dX6_readAll_87 w_X6_60 f_7_6 rfl (r_706 0) (fun v87 e87 l87 u87 => ?_)
            try simp only [zuI_1, zuI_2, zuJ_1, zuJ_2, zuJ_3, zuP_1, zuP_2, zuP_3, zuC_1, zuC_2, reduceIte, Nat.reduceEqDiff, false_and, and_false, true_and, and_true, and_self, or_true, true_or, or_false, false_or] at e87
            refine zs_iconst (pc := 90) C dX6_readAll_90 (by decide) ?_
            first | refine zs_iadd (pc := 91) C dX6_readAll_91 (by omega) ?_ | refine zs_iaddF (pc := 91) C dX6_readAll_91 (fun z91 hz911 hz912 => ?_)
            refine zs_puti (r := 706) (pc := 92) C dX6_readAll_92 w_X6_60 f_7_6 rfl (r_706 0) (by omega) ?_
            refine zs_goto (tgt := 167) (pc := 95) C dX6_readAll_95 (by decide) ?_
            first | refine zs_iinc (pc := 167) C dX6_readAll_167 rfl (by decide) (by omega) ?_ | refine zs_iincF (pc := 167) C dX6_readAll_167 rfl (by decide) (fun z167 hz1671 hz1672 => ?_)
            dsimp only [zset, zclr, znone]
            refine zs_goto (tgt := 32) (pc := 170) C dX6_readAll_170 (by decide) ?_
            exact zs_wk (ih32 _ _ (by first | omega | (simp only [zuI_1, zuI_2, zuJ_1, zuJ_2, zuJ_3, zuP_1, zuP_2, zuP_3, zuC_1, zuC_2, reduceIte, Nat.reduceEqDiff, false_and, and_false, true_and, and_true, and_self, or_true, true_or, or_false, false_or]; omega)) (by first | omega | (simp only [zuI_1, zuI_2, zuJ_1, zuJ_2, zuJ_3, zuP_1, zuP_2, zuP_3, zuC_1, zuC_2, reduceIte, Nat.reduceEqDiff, false_and, and_false, true_and, and_true, and_self, or_true, true_or, or_false, false_or]; omega)) (by repeat (first | exact zsm_rf | assumption | refine zsm_C (by decide) ?_ | refine zsm_I (by decide) ?_ | refine zsm_J ?_ | refine zsm_c (by assumption) (by decide) ?_)) (by first | omega | (simp only [zuI_1, zuI_2, zuJ_1, zuJ_2, zuJ_3, zuP_1, zuP_2, zuP_3, zuC_1, zuC_2, reduceIte, Nat.reduceEqDiff, false_and, and_false, true_and, and_true, and_self, or_true, true_or, or_false, false_or]; omega))) (zwk_s rfl (zwk_s rfl (zwk_s rfl (zwk_s rfl (zwk_n zwk_0)))))
          · skip
            refine zs_iload (pc := 78) C dX6_readAll_78 rfl ?_
            refine zs_bipush (pc := 80) C dX6_readAll_80 (by decide) (by decide) ?_
            refine zs_icmp_ne (tgt := 98) (pc := 82) C dX6_readAll_82 (by decide) (fun h82 => ?_) (fun h82 => ?_)
            · skip
              refine zs_iload (pc := 98) C dX6_readAll_98 rfl ?_
              refine zSip1 (pc := 100) C dX6_readAll_100 s_X6_63 (c_X6_isLetter hX ) (by decide) ⟨Nat.zero_le _, Nat.zero_le _⟩ (Nat.le_of_ble_eq_true rfl) (fun x100 l100 u100 hp100 => ?_)
              have hq100 := hp100
              try simp only [zuI_1, zuI_2, zuJ_1, zuJ_2, zuJ_3, zuP_1, zuP_2, zuP_3, zuC_1, zuC_2, reduceIte, Nat.reduceEqDiff, false_and, and_false, true_and, and_true, and_self, or_true, true_or, or_false, false_or] at hq100
              refine zs_if_eq (tgt := 114) (pc := 103) C dX6_readAll_103 (by decide) (fun h103 => ?_) (fun h103 => ?_)
              · skip
                refine zs_iload (pc := 114) C dX6_readAll_114 rfl ?_
                refine zSip1 (pc := 116) C dX6_readAll_116 s_X6_71 (c_X6_isDigit hX ) (by decide) ⟨Nat.zero_le _, Nat.zero_le _⟩ (Nat.le_of_ble_eq_true rfl) (fun x116 l116 u116 hp116 => ?_)
                have hq116 := hp116
                try simp only [zuI_1, zuI_2, zuJ_1, zuJ_2, zuJ_3, zuP_1, zuP_2, zuP_3, zuC_1, zuC_2, reduceIte, Nat.reduceEqDiff, false_and, and_false, true_and, and_true, and_self, or_true, true_or, or_false, false_or] at hq116
                refine zs_if_eq (tgt := 130) (pc := 119) C dX6_readAll_119 (by decide) (fun h119 => ?_) (fun h119 => ?_)
                · skip
                  refine zs_aload_n (pc := 130) C dX6_readAll_130 rfl ?_
                  refine zs_dupa (pc := 131) C dX6_readAll_131 ?_
                  refine zs_geti (r := 706) (pc := 132) C dX6_readAll_132 w_X6_60 f_7_6 rfl (r_706 0) (fun v132 e132 l132 u132 => ?_)
                  try simp only [zuI_1, zuI_2, zuJ_1, zuJ_2, zuJ_3, zuP_1, zuP_2, zuP_3, zuC_1, zuC_2, reduceIte, Nat.reduceEqDiff, false_and, and_false, true_and, and_true, and_self, or_true, true_or, or_false, false_or] at e132
                  refine zs_iconst (pc := 135) C dX6_readAll_135 (by decide) ?_
                  first | refine zs_iadd (pc := 136) C dX6_readAll_136 (by omega) ?_ | refine zs_iaddF (pc := 136) C dX6_readAll_136 (fun z136 hz1361 hz1362 => ?_)
                  refine zs_puti (r := 706) (pc := 137) C dX6_readAll_137 w_X6_60 f_7_6 rfl (r_706 0) (by omega) ?_
                  refine zs_aload_n (pc := 140) C dX6_readAll_140 rfl ?_
                  refine zs_iload (pc := 141) C dX6_readAll_141 rfl ?_
                  refine zs_aload_n (pc := 143) C dX6_readAll_143 rfl ?_
                  refine zs_geti (r := 706) (pc := 144) C dX6_readAll_144 w_X6_60 f_7_6 rfl (r_706 0) (fun v144 e144 l144 u144 => ?_)
                  try simp only [zuI_1, zuI_2, zuJ_1, zuJ_2, zuJ_3, zuP_1, zuP_2, zuP_3, zuC_1, zuC_2, reduceIte, Nat.reduceEqDiff, false_and, and_false, true_and, and_true, and_self, or_true, true_or, or_false, false_or] at e144
                  refine zs_aload_n (pc := 147) C dX6_readAll_147 rfl ?_
                  refine zs_geti (r := 705) (pc := 148) C dX6_readAll_148 w_X6_54 f_7_5 rfl (r_705 0) (fun v148 e148 l148 u148 => ?_)
                  try simp only [zuI_1, zuI_2, zuJ_1, zuJ_2, zuJ_3, zuP_1, zuP_2, zuP_3, zuC_1, zuC_2, reduceIte, Nat.reduceEqDiff, false_and, and_false, true_and, and_true, and_self, or_true, true_or, or_false, false_or] at e148
                  refine zs_icmp_ge (tgt := 163) (pc := 151) C dX6_readAll_151 (by decide) (fun h151 => ?_) (fun h151 => ?_)
                  · skip
                    refine zs_iconst (pc := 163) C dX6_readAll_163 (by decide) ?_
                    refine zVv2 (pc := 164) C dX6_readAll_164 v_X6_77 (c_X6_readSign hX (by first | omega | (simp only [zuI_1, zuI_2, zuJ_1, zuJ_2, zuJ_3, zuP_1, zuP_2, zuP_3, zuC_1, zuC_2, reduceIte, Nat.reduceEqDiff, false_and, and_false, true_and, and_true, and_self, or_true, true_or, or_false, false_or]; omega))) (by decide) (by decide) ⟨Nat.zero_le _, Nat.zero_le _⟩ (Nat.le_of_ble_eq_true rfl) (fun G164 hp164 => ?_)
                    obtain ⟨hz164, hq164⟩ := hp164
                    try simp only [zuI_1, zuI_2, zuJ_1, zuJ_2, zuJ_3, zuP_1, zuP_2, zuP_3, zuC_1, zuC_2, reduceIte, Nat.reduceEqDiff, false_and, and_false, true_and, and_true, and_self, or_true, true_or, or_false, false_or] at hq164
                    first | refine zs_iinc (pc := 167) C dX6_readAll_167 rfl (by decide) (by omega) ?_ | refine zs_iincF (pc := 167) C dX6_readAll_167 rfl (by decide) (fun z167 hz1671 hz1672 => ?_)
                    dsimp only [zset, zclr, znone]
                    refine zs_goto (tgt := 32) (pc := 170) C dX6_readAll_170 (by decide) ?_
                    exact zs_wk (ih32 _ _ (by first | omega | (simp only [zuI_1, zuI_2, zuJ_1, zuJ_2, zuJ_3, zuP_1, zuP_2, zuP_3, zuC_1, zuC_2, reduceIte, Nat.reduceEqDiff, false_and, and_false, true_and, and_true, and_self, or_true, true_or, or_false, false_or]; omega)) (by first | omega | (simp only [zuI_1, zuI_2, zuJ_1, zuJ_2, zuJ_3, zuP_1, zuP_2, zuP_3, zuC_1, zuC_2, reduceIte, Nat.reduceEqDiff, false_and, and_false, true_and, and_true, and_self, or_true, true_or, or_false, false_or]; omega)) (by repeat (first | exact zsm_rf | assumption | refine zsm_C (by decide) ?_ | refine zsm_I (by decide) ?_ | refine zsm_J ?_ | refine zsm_c (by assumption) (by decide) ?_)) (by first | omega | (simp only [zuI_1, zuI_2, zuJ_1, zuJ_2, zuJ_3, zuP_1, zuP_2, zuP_3, zuC_1, zuC_2, reduceIte, Nat.reduceEqDiff, false_and, and_false, true_and, and_true, and_self, or_true, true_or, or_false, false_or]; omega))) (zwk_s rfl (zwk_s rfl (zwk_s rfl (zwk_s rfl (zwk_n zwk_0)))))
                  · skip
                    refine zs_aload_n (pc := 154) C dX6_readAll_154 rfl ?_
                    refine zs_aload_n (pc := 155) C dX6_readAll_155 rfl ?_
                    refine zs_geti (r := 706) (pc := 156) C dX6_readAll_156 w_X6_60 f_7_6 rfl (r_706 0) (fun v156 e156 l156 u156 => ?_)
                    try simp only [zuI_1, zuI_2, zuJ_1, zuJ_2, zuJ_3, zuP_1, zuP_2, zuP_3, zuC_1, zuC_2, reduceIte, Nat.reduceEqDiff, false_and, and_false, true_and, and_true, and_self, or_true, true_or, or_false, false_or] at e156
                    refine zs_iald (r := 2055) (pc := 159) C dX6_readAll_159 a_55 (by decide) (by omega) rfl (r_2055 _) (fun v159 e159 l159 u159 => ?_)
                    try simp only [zuI_1, zuI_2, zuJ_1, zuJ_2, zuJ_3, zuP_1, zuP_2, zuP_3, zuC_1, zuC_2, reduceIte, Nat.reduceEqDiff, false_and, and_false, true_and, and_true, and_self, or_true, true_or, or_false, false_or] at e159
                    refine zs_goto (tgt := 164) (pc := 160) C dX6_readAll_160 (by decide) ?_
                    refine zVv2 (pc := 164) C dX6_readAll_164 v_X6_77 (c_X6_readSign hX (by first | omega | (simp only [zuI_1, zuI_2, zuJ_1, zuJ_2, zuJ_3, zuP_1, zuP_2, zuP_3, zuC_1, zuC_2, reduceIte, Nat.reduceEqDiff, false_and, and_false, true_and, and_true, and_self, or_true, true_or, or_false, false_or]; omega))) (by decide) (by decide) ⟨Nat.zero_le _, Nat.zero_le _⟩ (Nat.le_of_ble_eq_true rfl) (fun G164 hp164 => ?_)
                    obtain ⟨hz164, hq164⟩ := hp164
                    try simp only [zuI_1, zuI_2, zuJ_1, zuJ_2, zuJ_3, zuP_1, zuP_2, zuP_3, zuC_1, zuC_2, reduceIte, Nat.reduceEqDiff, false_and, and_false, true_and, and_true, and_self, or_true, true_or, or_false, false_or] at hq164
                    first | refine zs_iinc (pc := 167) C dX6_readAll_167 rfl (by decide) (by omega) ?_ | refine zs_iincF (pc := 167) C dX6_readAll_167 rfl (by decide) (fun z167 hz1671 hz1672 => ?_)
                    dsimp only [zset, zclr, znone]
                    refine zs_goto (tgt := 32) (pc := 170) C dX6_readAll_170 (by decide) ?_
                    exact zs_wk (ih32 _ _ (by first | omega | (simp only [zuI_1, zuI_2, zuJ_1, zuJ_2, zuJ_3, zuP_1, zuP_2, zuP_3, zuC_1, zuC_2, reduceIte, Nat.reduceEqDiff, false_and, and_false, true_and, and_true, and_self, or_true, true_or, or_false, false_or]; omega)) (by first | omega | (simp only [zuI_1, zuI_2, zuJ_1, zuJ_2, zuJ_3, zuP_1, zuP_2, zuP_3, zuC_1, zuC_2, reduceIte, Nat.reduceEqDiff, false_and, and_false, true_and, and_true, and_self, or_true, true_or, or_false, false_or]; omega)) (by repeat (first | exact zsm_rf | assumption | refine zsm_C (by decide) ?_ | refine zsm_I (by decide) ?_ | refine zsm_J ?_ | refine zsm_c (by assumption) (by decide) ?_)) (by first | omega | (simp only [zuI_1, zuI_2, zuJ_1, zuJ_2, zuJ_3, zuP_1, zuP_2, zuP_3, zuC_1, zuC_2, reduceIte, Nat.reduceEqDiff, false_and, and_false, true_and, and_true, and_self, or_true, true_or, or_false, false_or]; omega))) (zwk_s rfl (zwk_s rfl (zwk_s rfl (zwk_s rfl (zwk_n zwk_0)))))
                · skip
                  refine zs_aload_n (pc := 122) C dX6_readAll_122 rfl ?_
                  refine zs_aload_n (pc := 123) C dX6_readAll_123 rfl ?_
                  refine zVv1 (pc := 124) C dX6_readAll_124 v_X6_74 (c_X6_readDigits hX ) (by decide) (by decide) ⟨Nat.zero_le _, Nat.zero_le _⟩ (Nat.le_of_ble_eq_true rfl) (fun G124 hp124 => ?_)
                  obtain ⟨hz124, hq124⟩ := hp124
                  try simp only [zuI_1, zuI_2, zuJ_1, zuJ_2, zuJ_3, zuP_1, zuP_2, zuP_3, zuC_1, zuC_2, reduceIte, Nat.reduceEqDiff, false_and, and_false, true_and, and_true, and_self, or_true, true_or, or_false, false_or] at hq124
                  refine zs_goto (tgt := 167) (pc := 127) C dX6_readAll_127 (by decide) ?_
                  first | refine zs_iinc (pc := 167) C dX6_readAll_167 rfl (by decide) (by omega) ?_ | refine zs_iincF (pc := 167) C dX6_readAll_167 rfl (by decide) (fun z167 hz1671 hz1672 => ?_)
                  dsimp only [zset, zclr, znone]
                  refine zs_goto (tgt := 32) (pc := 170) C dX6_readAll_170 (by decide) ?_
                  exact zs_wk (ih32 _ _ (by first | omega | (simp only [zuI_1, zuI_2, zuJ_1, zuJ_2, zuJ_3, zuP_1, zuP_2, zuP_3, zuC_1, zuC_2, reduceIte, Nat.reduceEqDiff, false_and, and_false, true_and, and_true, and_self, or_true, true_or, or_false, false_or]; omega)) (by first | omega | (simp only [zuI_1, zuI_2, zuJ_1, zuJ_2, zuJ_3, zuP_1, zuP_2, zuP_3, zuC_1, zuC_2, reduceIte, Nat.reduceEqDiff, false_and, and_false, true_and, and_true, and_self, or_true, true_or, or_false, false_or]; omega)) (by repeat (first | exact zsm_rf | assumption | refine zsm_C (by decide) ?_ | refine zsm_I (by decide) ?_ | refine zsm_J ?_ | refine zsm_c (by assumption) (by decide) ?_)) (by first | omega | (simp only [zuI_1, zuI_2, zuJ_1, zuJ_2, zuJ_3, zuP_1, zuP_2, zuP_3, zuC_1, zuC_2, reduceIte, Nat.reduceEqDiff, false_and, and_false, true_and, and_true, and_self, or_true, true_or, or_false, false_or]; omega))) (zwk_s rfl (zwk_s rfl (zwk_s rfl (zwk_s rfl (zwk_n zwk_0)))))
              · skip
                refine zs_aload_n (pc := 106) C dX6_readAll_106 rfl ?_
                refine zs_aload_n (pc := 107) C dX6_readAll_107 rfl ?_
                refine zVv1 (pc := 108) C dX6_readAll_108 v_X6_67 (c_X6_readWord hX ) (by decide) (by decide) ⟨Nat.zero_le _, Nat.zero_le _⟩ (Nat.le_of_ble_eq_true rfl) (fun G108 hp108 => ?_)
                obtain ⟨hz108, hq108⟩ := hp108
                try simp only [zuI_1, zuI_2, zuJ_1, zuJ_2, zuJ_3, zuP_1, zuP_2, zuP_3, zuC_1, zuC_2, reduceIte, Nat.reduceEqDiff, false_and, and_false, true_and, and_true, and_self, or_true, true_or, or_false, false_or] at hq108
                refine zs_goto (tgt := 167) (pc := 111) C dX6_readAll_111 (by decide) ?_
                first | refine zs_iinc (pc := 167) C dX6_readAll_167 rfl (by decide) (by omega) ?_ | refine zs_iincF (pc := 167) C dX6_readAll_167 rfl (by decide) (fun z167 hz1671 hz1672 => ?_)
                dsimp only [zset, zclr, znone]
                refine zs_goto (tgt := 32) (pc := 170) C dX6_readAll_170 (by decide) ?_
                exact zs_wk (ih32 _ _ (by first | omega | (simp only [zuI_1, zuI_2, zuJ_1, zuJ_2, zuJ_3, zuP_1, zuP_2, zuP_3, zuC_1, zuC_2, reduceIte, Nat.reduceEqDiff, false_and, and_false, true_and, and_true, and_self, or_true, true_or, or_false, false_or]; omega)) (by first | omega | (simp only [zuI_1, zuI_2, zuJ_1, zuJ_2, zuJ_3, zuP_1, zuP_2, zuP_3, zuC_1, zuC_2, reduceIte, Nat.reduceEqDiff, false_and, and_false, true_and, and_true, and_self, or_true, true_or, or_false, false_or]; omega)) (by repeat (first | exact zsm_rf | assumption | refine zsm_C (by decide) ?_ | refine zsm_I (by decide) ?_ | refine zsm_J ?_ | refine zsm_c (by assumption) (by decide) ?_)) (by first | omega | (simp only [zuI_1, zuI_2, zuJ_1, zuJ_2, zuJ_3, zuP_1, zuP_2, zuP_3, zuC_1, zuC_2, reduceIte, Nat.reduceEqDiff, false_and, and_false, true_and, and_true, and_self, or_true, true_or, or_false, false_or]; omega))) (zwk_s rfl (zwk_s rfl (zwk_s rfl (zwk_s rfl (zwk_n zwk_0)))))
            · skip
              refine zs_aload_n (pc := 85) C dX6_readAll_85 rfl ?_
              refine zs_dupa (pc := 86) C dX6_readAll_86 ?_
              refine zs_geti (r := 706) (pc := 87) C dX6_readAll_87 w_X6_60 f_7_6 rfl (r_706 0) (fun v87 e87 l87 u87 => ?_)
              try simp only [zuI_1, zuI_2, zuJ_1, zuJ_2, zuJ_3, zuP_1, zuP_2, zuP_3, zuC_1, zuC_2, reduceIte, Nat.reduceEqDiff, false_and, and_false, true_and, and_true, and_self, or_true, true_or, or_false, false_or] at e87
              refine zs_iconst (pc := 90) C dX6_readAll_90 (by decide) ?_
              first | refine zs_iadd (pc := 91) C dX6_readAll_91 (by omega) ?_ | refine zs_iaddF (pc := 91) C dX6_readAll_91 (fun z91 hz911 hz912 => ?_)
              refine zs_puti (r := 706) (pc := 92) C dX6_readAll_92 w_X6_60 f_7_6 rfl (r_706 0) (by omega) ?_
              refine zs_goto (tgt := 167) (pc := 95) C dX6_readAll_95 (by decide) ?_
              first | refine zs_iinc (pc := 167) C dX6_readAll_167 rfl (by decide) (by omega) ?_ | refine zs_iincF (pc := 167) C dX6_readAll_167 rfl (by decide) (fun z167 hz1671 hz1672 => ?_)
              dsimp only [zset, zclr, znone]
              refine zs_goto (tgt := 32) (pc := 170) C dX6_readAll_170 (by decide) ?_
              exact zs_wk (ih32 _ _ (by first | omega | (simp only [zuI_1, zuI_2, zuJ_1, zuJ_2, zuJ_3, zuP_1, zuP_2, zuP_3, zuC_1, zuC_2, reduceIte, Nat.reduceEqDiff, false_and, and_false, true_and, and_true, and_self, or_true, true_or, or_false, false_or]; omega)) (by first | omega | (simp only [zuI_1, zuI_2, zuJ_1, zuJ_2, zuJ_3, zuP_1, zuP_2, zuP_3, zuC_1, zuC_2, reduceIte, Nat.reduceEqDiff, false_and, and_false, true_and, and_true, and_self, or_true, true_or, or_false, false_or]; omega)) (by repeat (first | exact zsm_rf | assumption | refine zsm_C (by decide) ?_ | refine zsm_I (by decide) ?_ | refine zsm_J ?_ | refine zsm_c (by assumption) (by decide) ?_)) (by first | omega | (simp only [zuI_1, zuI_2, zuJ_1, zuJ_2, zuJ_3, zuP_1, zuP_2, zuP_3, zuC_1, zuC_2, reduceIte, Nat.reduceEqDiff, false_and, and_false, true_and, and_true, and_self, or_true, true_or, or_false, false_or]; omega))) (zwk_s rfl (zwk_s rfl (zwk_s rfl (zwk_s rfl (zwk_n zwk_0)))))
  exact zs_wk (L32 _ _ _ (by first | omega | (simp only [zuI_1, zuI_2, zuJ_1, zuJ_2, zuJ_3, zuP_1, zuP_2, zuP_3, zuC_1, zuC_2, reduceIte, Nat.reduceEqDiff, false_and, and_false, true_and, and_true, and_self, or_true, true_or, or_false, false_or]; omega)) (by first | omega | (simp only [zuI_1, zuI_2, zuJ_1, zuJ_2, zuJ_3, zuP_1, zuP_2, zuP_3, zuC_1, zuC_2, reduceIte, Nat.reduceEqDiff, false_and, and_false, true_and, and_true, and_self, or_true, true_or, or_false, false_or]; omega)) (by repeat (first | exact zsm_rf | assumption | refine zsm_C (by decide) ?_ | refine zsm_I (by decide) ?_ | refine zsm_J ?_ | refine zsm_c (by assumption) (by decide) ?_)) (Nat.lt_succ_self _)) (zwk_s rfl (zwk_s rfl (zwk_s rfl (zwk_s rfl (zwk_n zwk_0)))))
