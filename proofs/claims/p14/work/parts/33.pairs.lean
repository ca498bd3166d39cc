theorem lpm_s {x x' z z' : Int} {nn : Nat} (hm : lpm x z < nn + 1) (h : x ≠ 0) (h' : x' = 0 ∨ x' = 1) (h1 : x' = 1 → z < z') (hz : z ≤ 390625) (hz2 : z' ≤ 390625) : lpm x' z' < nn := by
  rcases h' with rfl | rfl
  · exact lpm_s0 hm h hz
  · exact lpm_s1 hm h (h1 rfl) hz2
theorem zod5_b {f : Nat → Int} (hf : ∀ i, 0 ≤ f i ∧ f i ≤ 6) : zod 7 f 5 ≤ 390625 := by
  rw [zod5]
  have f0 := hf 0; have f1 := hf 1; have f2 := hf 2; have f3 := hf 3; have f4 := hf 4
  omega
theorem mat6 {Γ : zΓ} {G : zH} (hG : zG Γ G) (a : Nat) : ∀ i, 0 ≤ G.1 2103 a i ∧ G.1 2103 a i ≤ 6 := fun i => by
  have := hG.1 2103 a i
  rw [r_2103] at this
  exact this
theorem lowU5 {G : zH} {r a : Nat} {x3 y : Int} (h : ∀ i : Nat, (i : Int) < x3 → G.1 r a i ≤ 5) (h0 : 0 ≤ x3) (hy : y ≤ 5) : ∀ i : Nat, (i : Int) < x3 + 1 → (zuI G r a x3.toNat y).1 r a i ≤ 5 := by
  intro i hi
  rw [zuI_1]
  by_cases q : i = x3.toNat
  · rw [if_pos ⟨rfl, rfl, q⟩]; exact hy
  · rw [if_neg (fun z => q z.2.2)]; exact h i (by omega)

set_option maxHeartbeats 4000000 in
set_option maxRecDepth 100000 in
theorem c_X9_common {l : Launch} {Γ : zΓ} {G : zH} {a b : Int} (hX : zXs Γ) (h : 0 ≤ a ∧ 0 < b) : zMet l Γ yX9_common cX9_common 5 (some .int) 0 [zi a, zi b] G (zpi (fun x G' => G' = G ∧ (x ≠ 0))) := by
  refine zMet_of RX9 hX (by decide) rfl (Nat.le_of_ble_eq_true rfl) ?_
  intro p e s m args below meth c C hr hlk
  show Z p l e (zrm 0) s m args below meth c Γ 5 0 0 (MQ below (zQc Γ (zpi (fun x G' => G' = G ∧ (x ≠ 0)))) args s 0 0 (zA Γ)) 0 [some (zi a), some (zi b), none, none, none] [] G
  refine zs_loc 0 rfl (fun ha0 hb0 => ?_)
  refine zs_loc 1 rfl (fun ha1 hb1 => ?_)
  refine zs_iload_n (pc := 0) C dX9_common_0 rfl ?_
  refine zs_istore_n (pc := 1) C dX9_common_1 (by decide) ?_
  dsimp only [zset, zclr, znone]
  refine zs_iload_n (pc := 2) C dX9_common_2 rfl ?_
  refine zs_istore_n (pc := 3) C dX9_common_3 (by decide) ?_
  dsimp only [zset, zclr, znone]
  have L4 : ∀ (nn : Nat) (x2 x3 : Int), (0 ≤ x2 ∧ 0 ≤ x3) → (x2 ≠ 0 ∨ x3 ≠ 0) → x3.toNat < nn → Z p l e (zrm 0) s m args below meth c Γ 5 0 0 (MQ below (zQc Γ (zpi (fun x G' => G' = G ∧ (x ≠ 0)))) args s 0 0 (zA Γ)) 4 [some (zi a), some (zi b), some (zi x2), some (zi x3), none] [] G := by
    intro nn
    induction nn with
    | zero => intro x2 x3 h4_0 h4_1 hm; exact absurd hm (Nat.not_lt_zero _)
    | succ nn ih4 =>
      intro x2 x3 h4_0 h4_1 hm4
      refine zs_iload_n (pc := 4) C dX9_common_4 rfl ?_
      refine zs_if_eq (tgt := 21) (pc := 5) C dX9_common_5 (by decide) (fun h5 => ?_) (fun h5 => ?_)
      · skip
        refine zs_iload_n (pc := 21) C dX9_common_21 rfl ?_
        exact zs_iret (pc := 22) C hr hlk dX9_common_22 ⟨rfl, by first | omega | (simp only [zuI_1, zuI_2, zuJ_1, zuJ_2, zuJ_3, zuP_1, zuP_2, zuP_3, zuC_1, zuC_2, reduceIte, Nat.reduceEqDiff, false_and, and_false, true_and, and_true, and_self, or_true, true_or, or_false, false_or]; omega)⟩
      · skip
        refine zs_iload_n (pc := 8) C dX9_common_8 rfl ?_
        refine zs_iload_n (pc := 9) C dX9_common_9 rfl ?_
        first | refine zs_irem (pc := 10) C dX9_common_10 (by omega) (by omega) (fun hz101 hz102 => ?_) | refine zs_iremF (pc := 10) C dX9_common_10 (by omega) (fun z10 hz101 hz102 => ?_)
        refine zs_istore (pc := 11) C dX9_common_11 (by decide) ?_
        dsimp only [zset, zclr, znone]
        refine zs_iload_n (pc := 13) C dX9_common_13 rfl ?_
        refine zs_istore_n (pc := 14) C dX9_common_14 (by decide) ?_
        dsimp only [zset, zclr, znone]
        refine zs_iload (pc := 15) C dX9_common_15 rfl ?_
        refine zs_istore_n (pc := 17) C dX9_common_17 (by decide) ?_
        dsimp only [zset, zclr, znone]
        refine zs_goto (tgt := 4) (pc := 18) C dX9_common_18 (by decide) ?_
        exact zs_wk (ih4 _ _ (by first | omega | (simp only [zuI_1, zuI_2, zuJ_1, zuJ_2, zuJ_3, zuP_1, zuP_2, zuP_3, zuC_1, zuC_2, reduceIte, Nat.reduceEqDiff, false_and, and_false, true_and, and_true, and_self, or_true, true_or, or_false, false_or]; omega)) (by first | omega | (simp only [zuI_1, zuI_2, zuJ_1, zuJ_2, zuJ_3, zuP_1, zuP_2, zuP_3, zuC_1, zuC_2, reduceIte, Nat.reduceEqDiff, false_and, and_false, true_and, and_true, and_self, or_true, true_or, or_false, false_or]; omega)) (by first | omega | (simp only [zuI_1, zuI_2, zuJ_1, zuJ_2, zuJ_3, zuP_1, zuP_2, zuP_3, zuC_1, zuC_2, reduceIte, Nat.reduceEqDiff, false_and, and_false, true_and, and_true, and_self, or_true, true_or, or_false, false_or]; omega))) (zwk_s rfl (zwk_s rfl (zwk_s rfl (zwk_s rfl (zwk_n zwk_0)))))
  exact zs_wk (L4 _ _ _ (by first | omega | (simp only [zuI_1, zuI_2, zuJ_1, zuJ_2, zuJ_3, zuP_1, zuP_2, zuP_3, zuC_1, zuC_2, reduceIte, Nat.reduceEqDiff, false_and, and_false, true_and, and_true, and_self, or_true, true_or, or_false, false_or]; omega)) (by first | omega | (simp only [zuI_1, zuI_2, zuJ_1, zuJ_2, zuJ_3, zuP_1, zuP_2, zuP_3, zuC_1, zuC_2, reduceIte, Nat.reduceEqDiff, false_and, and_false, true_and, and_true, and_self, or_true, true_or, or_false, false_or]; omega)) (Nat.lt_succ_self _)) (zwk_s rfl (zwk_s rfl (zwk_s rfl (zwk_s rfl (zwk_n zwk_0)))))

set_option maxHeartbeats 4000000 in
set_option maxRecDepth 100000 in
theorem c_X9_areMates {l : Launch} {Γ : zΓ} {G : zH} {w : Nat}  (hX : zXs Γ)  : zMet l Γ yX9_areMates cX9_areMates 4 (some .boolean) 0 [zr 10 w] G (zpi (fun x G' => G' = G ∧ (x = 0 ∨ x = 1))) := by
  refine zMet_of RX9 hX (by decide) rfl (Nat.le_of_ble_eq_true rfl) ?_
  intro p e s m args below meth c C hr hlk
  show Z p l e (zrm 0) s m args below meth c Γ 4 0 0 (MQ below (zQc Γ (zpi (fun x G' => G' = G ∧ (x = 0 ∨ x = 1)))) args s 0 0 (zA Γ)) 0 [some (zr 10 w), none, none, none] [] G
  refine zs_iconst (pc := 0) C dX9_areMates_0 (by decide) ?_
  refine zs_istore_n (pc := 1) C dX9_areMates_1 (by decide) ?_
  dsimp only [zset, zclr, znone]
  refine zs_iconst (pc := 2) C dX9_areMates_2 (by decide) ?_
  refine zs_istore_n (pc := 3) C dX9_areMates_3 (by decide) ?_
  dsimp only [zset, zclr, znone]
  have L4 : ∀ (nn : Nat) (x1 x2 : Int), (0 ≤ x2 ∧ x2 ≤ 5) → (5 - x2).toNat < nn → Z p l e (zrm 0) s m args below meth c Γ 4 0 0 (MQ below (zQc Γ (zpi (fun x G' => G' = G ∧ (x = 0 ∨ x = 1)))) args s 0 0 (zA Γ)) 4 [some (zr 10 w), some (zi x1), some (zi x2), none] [] G := by
    intro nn
    induction nn with
    | zero => intro x1 x2 h4_0 hm; exact absurd hm (Nat.not_lt_zero _)
    | succ nn ih4 =>
      intro x1 x2 h4_0 hm4
      refine zs_iload_n (pc := 4) C dX9_areMates_4 rfl ?_
      refine zs_aload_n (pc := 5) C dX9_areMates_5 rfl ?_
      refine zs_geti (r := 1013) (pc := 6) C dX9_areMates_6 w_X9_261 f_10_13 rfl (r_1013 0) (fun v6 e6 l6 u6 => ?_)
      refine zs_icmp_ge (tgt := 68) (pc := 9) C dX9_areMates_9 (by decide) (fun h9 => ?_) (fun h9 => ?_)
      · skip
        refine zs_iload_n (pc := 68) C dX9_areMates_68 rfl ?_
        refine zs_aload_n (pc := 69) C dX9_areMates_69 rfl ?_
        refine zs_geti (r := 1013) (pc := 70) C dX9_areMates_70 w_X9_261 f_10_13 rfl (r_1013 0) (fun v70 e70 l70 u70 => ?_)
        refine zs_iconst (pc := 73) C dX9_areMates_73 (by decide) ?_
        first | refine zs_irem (pc := 74) C dX9_areMates_74 (by omega) (by omega) (fun hz741 hz742 => ?_) | refine zs_iremF (pc := 74) C dX9_areMates_74 (by omega) (fun z74 hz741 hz742 => ?_)
        refine zs_icmp_ne (tgt := 82) (pc := 75) C dX9_areMates_75 (by decide) (fun h75 => ?_) (fun h75 => ?_)
        · skip
          refine zs_iconst (pc := 82) C dX9_areMates_82 (by decide) ?_
          exact zs_zret (pc := 83) C hr hlk dX9_areMates_83 (by omega) ⟨rfl, by first | omega | (simp only [zuI_1, zuI_2, zuJ_1, zuJ_2, zuJ_3, zuP_1, zuP_2, zuP_3, zuC_1, zuC_2, reduceIte, Nat.reduceEqDiff, false_and, and_false, true_and, and_true, and_self, or_true, true_or, or_false, false_or]; omega)⟩
        · skip
          refine zs_iconst (pc := 78) C dX9_areMates_78 (by decide) ?_
          refine zs_goto (tgt := 83) (pc := 79) C dX9_areMates_79 (by decide) ?_
          exact zs_zret (pc := 83) C hr hlk dX9_areMates_83 (by omega) ⟨rfl, by first | omega | (simp only [zuI_1, zuI_2, zuJ_1, zuJ_2, zuJ_3, zuP_1, zuP_2, zuP_3, zuC_1, zuC_2, reduceIte, Nat.reduceEqDiff, false_and, and_false, true_and, and_true, and_self, or_true, true_or, or_false, false_or]; omega)⟩
      · skip
        refine zs_aload_n (pc := 12) C dX9_areMates_12 rfl ?_
        refine zs_getf (pc := 13) C dX9_areMates_13 w_X9_157 f_10_80 (by decide) ?_
        refine zs_iload_n (pc := 16) C dX9_areMates_16 rfl ?_
        refine zs_iald (r := 2103) (pc := 17) C dX9_areMates_17 a_103 (by decide) (by omega) rfl (r_2103 _) (fun v17 e17 l17 u17 => ?_)
        refine zs_istore_n (pc := 18) C dX9_areMates_18 (by decide) ?_
        dsimp only [zset, zclr, znone]
        refine zs_iload_n (pc := 19) C dX9_areMates_19 rfl ?_
        refine zs_iload_n (pc := 20) C dX9_areMates_20 rfl ?_
        refine zs_icmp_ne (tgt := 26) (pc := 21) C dX9_areMates_21 (by decide) (fun h21 => ?_) (fun h21 => ?_)
        · skip
          refine zs_iload_n (pc := 26) C dX9_areMates_26 rfl ?_
          refine zs_aload_n (pc := 27) C dX9_areMates_27 rfl ?_
          refine zs_geti (r := 1013) (pc := 28) C dX9_areMates_28 w_X9_261 f_10_13 rfl (r_1013 0) (fun v28 e28 l28 u28 => ?_)
          refine zs_icmp_ge (tgt := 46) (pc := 31) C dX9_areMates_31 (by decide) (fun h31 => ?_) (fun h31 => ?_)
          · skip
            refine zs_iload_n (pc := 46) C dX9_areMates_46 rfl ?_
            refine zs_iload_n (pc := 47) C dX9_areMates_47 rfl ?_
            refine zs_aload_n (pc := 48) C dX9_areMates_48 rfl ?_
            refine zs_geti (r := 1013) (pc := 49) C dX9_areMates_49 w_X9_261 f_10_13 rfl (r_1013 0) (fun v49 e49 l49 u49 => ?_)
            refine zs_icmp_ne (tgt := 59) (pc := 52) C dX9_areMates_52 (by decide) (fun h52 => ?_) (fun h52 => ?_)
            · skip
              refine zs_iconst (pc := 59) C dX9_areMates_59 (by decide) ?_
              first | refine zs_iadd (pc := 60) C dX9_areMates_60 (by omega) ?_ | refine zs_iaddF (pc := 60) C dX9_areMates_60 (fun z60 hz601 hz602 => ?_)
              refine zs_istore_n (pc := 61) C dX9_areMates_61 (by decide) ?_
              dsimp only [zset, zclr, znone]
              first | refine zs_iinc (pc := 62) C dX9_areMates_62 rfl (by decide) (by omega) ?_ | refine zs_iincF (pc := 62) C dX9_areMates_62 rfl (by decide) (fun z62 hz621 hz622 => ?_)
              dsimp only [zset, zclr, znone]
              refine zs_goto (tgt := 4) (pc := 65) C dX9_areMates_65 (by decide) ?_
              exact zs_wk (ih4 _ _ (by first | omega | (simp only [zuI_1, zuI_2, zuJ_1, zuJ_2, zuJ_3, zuP_1, zuP_2, zuP_3, zuC_1, zuC_2, reduceIte, Nat.reduceEqDiff, false_and, and_false, true_and, and_true, and_self, or_true, true_or, or_false, false_or]; omega)) (by first | omega | (simp only [zuI_1, zuI_2, zuJ_1, zuJ_2, zuJ_3, zuP_1, zuP_2, zuP_3, zuC_1, zuC_2, reduceIte, Nat.reduceEqDiff, false_and, and_false, true_and, and_true, and_self, or_true, true_or, or_false, false_or]; omega))) (zwk_s rfl (zwk_s rfl (zwk_s rfl (zwk_n zwk_0))))
            · skip
              refine zs_iconst (pc := 55) C dX9_areMates_55 (by decide) ?_
              refine zs_goto (tgt := 60) (pc := 56) C dX9_areMates_56 (by decide) ?_
              first | refine zs_iadd (pc := 60) C dX9_areMates_60 (by omega) ?_ | refine zs_iaddF (pc := 60) C dX9_areMates_60 (fun z60 hz601 hz602 => ?_)
              refine zs_istore_n (pc := 61) C dX9_areMates_61 (by decide) ?_
              dsimp only [zset, zclr, znone]
              first | refine zs_iinc (pc := 62) C dX9_areMates_62 rfl (by decide) (by omega) ?_ | refine zs_iincF (pc := 62) C dX9_areMates_62 rfl (by decide) (fun z62 hz621 hz622 => ?_)
              dsimp only [zset, zclr, znone]
              refine zs_goto (tgt := 4) (pc := 65) C dX9_areMates_65 (by decide) ?_
              exact zs_wk (ih4 _ _ (by first | omega | (simp only [zuI_1, zuI_2, zuJ_1, zuJ_2, zuJ_3, zuP_1, zuP_2, zuP_3, zuC_1, zuC_2, reduceIte, Nat.reduceEqDiff, false_and, and_false, true_and, and_true, and_self, or_true, true_or, or_false, false_or]; omega)) (by first | omega | (simp only [zuI_1, zuI_2, zuJ_1, zuJ_2, zuJ_3, zuP_1, zuP_2, zuP_3, zuC_1, zuC_2, reduceIte, Nat.reduceEqDiff, false_and, and_false, true_and, and_true, and_self, or_true, true_or, or_false, false_or]; omega))) (zwk_s rfl (zwk_s rfl (zwk_s rfl (zwk_n zwk_0))))
          · skip
            refine zs_aload_n (pc := 34) C dX9_areMates_34 rfl ?_
            refine zs_getf (pc := 35) C dX9_areMates_35 w_X9_157 f_10_80 (by decide) ?_
            refine zs_iload_n (pc := 38) C dX9_areMates_38 rfl ?_
            refine zs_iald (r := 2103) (pc := 39) C dX9_areMates_39 a_103 (by decide) (by omega) rfl (r_2103 _) (fun v39 e39 l39 u39 => ?_)
            refine zs_iload_n (pc := 40) C dX9_areMates_40 rfl ?_
            refine zs_icmp_eq (tgt := 46) (pc := 41) C dX9_areMates_41 (by decide) (fun h41 => ?_) (fun h41 => ?_)
            · skip
              refine zs_iload_n (pc := 46) C dX9_areMates_46 rfl ?_
              refine zs_iload_n (pc := 47) C dX9_areMates_47 rfl ?_
              refine zs_aload_n (pc := 48) C dX9_areMates_48 rfl ?_
              refine zs_geti (r := 1013) (pc := 49) C dX9_areMates_49 w_X9_261 f_10_13 rfl (r_1013 0) (fun v49 e49 l49 u49 => ?_)
              refine zs_icmp_ne (tgt := 59) (pc := 52) C dX9_areMates_52 (by decide) (fun h52 => ?_) (fun h52 => ?_)
              · skip
                refine zs_iconst (pc := 59) C dX9_areMates_59 (by decide) ?_
                first | refine zs_iadd (pc := 60) C dX9_areMates_60 (by omega) ?_ | refine zs_iaddF (pc := 60) C dX9_areMates_60 (fun z60 hz601 hz602 => ?_)
                refine zs_istore_n (pc := 61) C dX9_areMates_61 (by decide) ?_
                dsimp only [zset, zclr, znone]
                first | refine zs_iinc (pc := 62) C dX9_areMates_62 rfl (by decide) (by omega) ?_ | refine zs_iincF (pc := 62) C dX9_areMates_62 rfl (by decide) (fun z62 hz621 hz622 => ?_)
                dsimp only [zset, zclr, znone]
                refine zs_goto (tgt := 4) (pc := 65) C dX9_areMates_65 (by decide) ?_
                exact zs_wk (ih4 _ _ (by first | omega | (simp only [zuI_1, zuI_2, zuJ_1, zuJ_2, zuJ_3, zuP_1, zuP_2, zuP_3, zuC_1, zuC_2, reduceIte, Nat.reduceEqDiff, false_and, and_false, true_and, and_true, and_self, or_true, true_or, or_false, false_or]; omega)) (by first | omega | (simp only [zuI_1, zuI_2, zuJ_1, zuJ_2, zuJ_3, zuP_1, zuP_2, zuP_3, zuC_1, zuC_2, reduceIte, Nat.reduceEqDiff, false_and, and_false, true_and, and_true, and_self, or_true, true_or, or_false, false_or]; omega))) (zwk_s rfl (zwk_s rfl (zwk_s rfl (zwk_n zwk_0))))
              · skip
                refine zs_iconst (pc := 55) C dX9_areMates_55 (by decide) ?_
                refine zs_goto (tgt := 60) (pc := 56) C dX9_areMates_56 (by decide) ?_
                first | refine zs_iadd (pc := 60) C dX9_areMates_60 (by omega) ?_ | refine zs_iaddF (pc := 60) C dX9_areMates_60 (fun z60 hz601 hz602 => ?_)
                refine zs_istore_n (pc := 61) C dX9_areMates_61 (by decide) ?_
                dsimp only [zset, zclr, znone]
                first | refine zs_iinc (pc := 62) C dX9_areMates_62 rfl (by decide) (by omega) ?_ | refine zs_iincF (pc := 62) C dX9_areMates_62 rfl (by decide) (fun z62 hz621 hz622 => ?_)
                dsimp only [zset, zclr, znone]
                refine zs_goto (tgt := 4) (pc := 65) C dX9_areMates_65 (by decide) ?_
                exact zs_wk (ih4 _ _ (by first | omega | (simp only [zuI_1, zuI_2, zuJ_1, zuJ_2, zuJ_3, zuP_1, zuP_2, zuP_3, zuC_1, zuC_2, reduceIte, Nat.reduceEqDiff, false_and, and_false, true_and, and_true, and_self, or_true, true_or, or_false, false_or]; omega)) (by first | omega | (simp only [zuI_1, zuI_2, zuJ_1, zuJ_2, zuJ_3, zuP_1, zuP_2, zuP_3, zuC_1, zuC_2, reduceIte, Nat.reduceEqDiff, false_and, and_false, true_and, and_true, and_self, or_true, true_or, or_false, false_or]; omega))) (zwk_s rfl (zwk_s rfl (zwk_s rfl (zwk_n zwk_0))))
            · skip
              refine zs_iconst (pc := 44) C dX9_areMates_44 (by decide) ?_
              exact zs_zret (pc := 45) C hr hlk dX9_areMates_45 (by omega) ⟨rfl, by first | omega | (simp only [zuI_1, zuI_2, zuJ_1, zuJ_2, zuJ_3, zuP_1, zuP_2, zuP_3, zuC_1, zuC_2, reduceIte, Nat.reduceEqDiff, false_and, and_false, true_and, and_true, and_self, or_true, true_or, or_false, false_or]; omega)⟩
        · skip
          refine zs_iconst (pc := 24) C dX9_areMates_24 (by decide) ?_
          exact zs_zret (pc := 25) C hr hlk dX9_areMates_25 (by omega) ⟨rfl, by first | omega | (simp only [zuI_1, zuI_2, zuJ_1, zuJ_2, zuJ_3, zuP_1, zuP_2, zuP_3, zuC_1, zuC_2, reduceIte, Nat.reduceEqDiff, false_and, and_false, true_and, and_true, and_self, or_true, true_or, or_false, false_or]; omega)⟩
  exact zs_wk (L4 _ _ _ (by first | omega | (simp only [zuI_1, zuI_2, zuJ_1, zuJ_2, zuJ_3, zuP_1, zuP_2, zuP_3, zuC_1, zuC_2, reduceIte, Nat.reduceEqDiff, false_and, and_false, true_and, and_true, and_self, or_true, true_or, or_false, false_or]; omega)) (Nat.lt_succ_self _)) (zwk_s rfl (zwk_s rfl (zwk_s rfl (zwk_n zwk_0))))

set_option maxHeartbeats 4000000 in
set_option maxRecDepth 100000 in
theorem c_X9_knownBy {l : Launch} {Γ : zΓ} {G : zH} {w : Nat}  (hX : zXs Γ)  : zMet l Γ yX9_knownBy cX9_knownBy 1 (some .int) 0 [zr 10 w] G (zpi (fun x G' => G' = G ∧ (0 ≤ x ∧ x ≤ 60))) := by
  refine zMet_of RX9 hX (by decide) rfl (Nat.le_of_ble_eq_true rfl) ?_
  intro p e s m args below meth c C hr hlk
  show Z p l e (zrm 0) s m args below meth c Γ 1 0 0 (MQ below (zQc Γ (zpi (fun x G' => G' = G ∧ (0 ≤ x ∧ x ≤ 60)))) args s 0 0 (zA Γ)) 0 [some (zr 10 w)] [] G
  refine zs_aload_n (pc := 0) C dX9_knownBy_0 rfl ?_
  refine zs_geti (r := 1083) (pc := 1) C dX9_knownBy_1 w_X9_379 f_10_83 rfl (r_1083 0) (fun v1 e1 l1 u1 => ?_)
  refine zs_if_lt (tgt := 20) (pc := 4) C dX9_knownBy_4 (by decide) (fun h4 => ?_) (fun h4 => ?_)
  · skip
    refine zs_aload_n (pc := 20) C dX9_knownBy_20 rfl ?_
    refine zs_getf (pc := 21) C dX9_knownBy_21 w_X9_106 f_10_57 (by decide) ?_
    refine zs_iconst (pc := 24) C dX9_knownBy_24 (by decide) ?_
    refine zs_iald (r := 2087) (pc := 25) C dX9_knownBy_25 a_87 (by decide) (by omega) rfl (r_2087 _) (fun v25 e25 l25 u25 => ?_)
    refine zs_goto (tgt := 33) (pc := 26) C dX9_knownBy_26 (by decide) ?_
    exact zs_iret (pc := 33) C hr hlk dX9_knownBy_33 ⟨rfl, by first | omega | (simp only [zuI_1, zuI_2, zuJ_1, zuJ_2, zuJ_3, zuP_1, zuP_2, zuP_3, zuC_1, zuC_2, reduceIte, Nat.reduceEqDiff, false_and, and_false, true_and, and_true, and_self, or_true, true_or, or_false, false_or]; omega)⟩
  · skip
    refine zs_aload_n (pc := 7) C dX9_knownBy_7 rfl ?_
    refine zs_geti (r := 1083) (pc := 8) C dX9_knownBy_8 w_X9_379 f_10_83 rfl (r_1083 0) (fun v8 e8 l8 u8 => ?_)
    refine zs_aload_n (pc := 11) C dX9_knownBy_11 rfl ?_
    refine zs_getf (pc := 12) C dX9_knownBy_12 w_X9_106 f_10_57 (by decide) ?_
    refine zs_iconst (pc := 15) C dX9_knownBy_15 (by decide) ?_
    refine zs_iald (r := 2087) (pc := 16) C dX9_knownBy_16 a_87 (by decide) (by omega) rfl (r_2087 _) (fun v16 e16 l16 u16 => ?_)
    refine zs_icmp_le (tgt := 29) (pc := 17) C dX9_knownBy_17 (by decide) (fun h17 => ?_) (fun h17 => ?_)
    · skip
      refine zs_aload_n (pc := 29) C dX9_knownBy_29 rfl ?_
      refine zs_geti (r := 1083) (pc := 30) C dX9_knownBy_30 w_X9_379 f_10_83 rfl (r_1083 0) (fun v30 e30 l30 u30 => ?_)
      exact zs_iret (pc := 33) C hr hlk dX9_knownBy_33 ⟨rfl, by first | omega | (simp only [zuI_1, zuI_2, zuJ_1, zuJ_2, zuJ_3, zuP_1, zuP_2, zuP_3, zuC_1, zuC_2, reduceIte, Nat.reduceEqDiff, false_and, and_false, true_and, and_true, and_self, or_true, true_or, or_false, false_or]; omega)⟩
    · skip
      refine zs_aload_n (pc := 20) C dX9_knownBy_20 rfl ?_
      refine zs_getf (pc := 21) C dX9_knownBy_21 w_X9_106 f_10_57 (by decide) ?_
      refine zs_iconst (pc := 24) C dX9_knownBy_24 (by decide) ?_
      refine zs_iald (r := 2087) (pc := 25) C dX9_knownBy_25 a_87 (by decide) (by omega) rfl (r_2087 _) (fun v25 e25 l25 u25 => ?_)
      refine zs_goto (tgt := 33) (pc := 26) C dX9_knownBy_26 (by decide) ?_
      exact zs_iret (pc := 33) C hr hlk dX9_knownBy_33 ⟨rfl, by first | omega | (simp only [zuI_1, zuI_2, zuJ_1, zuJ_2, zuJ_3, zuP_1, zuP_2, zuP_3, zuC_1, zuC_2, reduceIte, Nat.reduceEqDiff, false_and, and_false, true_and, and_true, and_self, or_true, true_or, or_false, false_or]; omega)⟩

