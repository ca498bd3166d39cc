set_option maxHeartbeats 4000000 in
set_option maxRecDepth 100000 in
theorem c_X9_goesByW1 {l : Launch} {Γ : zΓ} {G : zH} {w : Nat} {t i : Int} {A W : aS}  (hX : zXs Γ) (hR : rW Γ w 1 W G) (hK : kR Γ w A G) (hW : WI A W) (hT : TA A) (hway : G.1 1074 w 0 = t) (hone : t = 1 ∨ t = 2 → G.1 1075 w 0 = i) (h100 : W 18 0 < 100) (h73 : -100000 ≤ G.1 1073 w 0 ∧ G.1 1073 w 0 ≤ 100000)  : zMet l Γ yX9_goesBy cX9_goesBy 9 none 6 [zr 10 w, zi 1] G (zpv (fun G' => zsm [1050, 2091, 2092, 2093, 2094, 2095, 2088, 2087, 2082, 2084, 2083, 2089, 2086, 1073, 2090] G G' ∧ (rW Γ w 1 (wGo A t i W) G' ∧ G'.1 1073 w 0 = G.1 1073 w 0 + (wFlour (wCod A W t i) (G.1 1072 w 0) - wFlour (wGo A t i W) (G.1 1072 w 0)) ∧ LO G G' ∧ zsj [2079, 2080] G G'))) := by
  refine zMet_of RX9 hX (by decide) rfl (Nat.le_of_ble_eq_true rfl) ?_
  intro p e s m args below meth c C hr hlk
  show Z p l e (zrm 6) s m args below meth c Γ 9 0 0 (MQ below (zQc Γ (zpv (fun G' => zsm [1050, 2091, 2092, 2093, 2094, 2095, 2088, 2087, 2082, 2084, 2083, 2089, 2086, 1073, 2090] G G' ∧ (rW Γ w 1 (wGo A t i W) G' ∧ G'.1 1073 w 0 = G.1 1073 w 0 + (wFlour (wCod A W t i) (G.1 1072 w 0) - wFlour (wGo A t i W) (G.1 1072 w 0)) ∧ LO G G' ∧ zsj [2079, 2080] G G')))) args s 0 0 (zA Γ)) 0 [some (zr 10 w), some (zi 1), none, none, none, none, none, none, none] [] G
  have hT0 := hT.1
  have hL0 := hR.1
  obtain ⟨⟨k12, k13, k14, k15, k16⟩, kb, kS, kP, -, -, kC, kM, kO, kL, kN⟩ := id hK
  refine zs_iconst (pc := 0) C dX9_goesBy_0 (by decide) ?_
  refine zs_istore_n (pc := 1) C dX9_goesBy_1 (by decide) ?_
  dsimp only [zset, zclr, znone]
  refine zs_lconst (n := 0) (pc := 2) C dX9_goesBy_2 rfl (by decide) ?_
  refine zs_lstore_n (pc := 3) C dX9_goesBy_3 (by decide) ?_
  dsimp only [zset, zclr, znone]
  refine zs_iconst (pc := 4) C dX9_goesBy_4 (by decide) ?_
  refine zs_istore (pc := 5) C dX9_goesBy_5 (by decide) ?_
  dsimp only [zset, zclr, znone]
  have L7 : ∀ (nn : Nat) (x2 x3 x5 : Int) (G1 : zH), (0 ≤ x5 ∧ x5 ≤ A 4 1) → (x2 = (wBest A W t i (x5 * 4).toNat).1) → (x3 = (wBest A W t i (x5 * 4).toNat).2) → (zsm [1050] G G1) → (zsj [2079, 2080] G G1) → (5 - x5).toNat < nn → Z p l e (zrm 6) s m args below meth c Γ 9 0 0 (MQ below (zQc Γ (zpv (fun G' => zsm [1050, 2091, 2092, 2093, 2094, 2095, 2088, 2087, 2082, 2084, 2083, 2089, 2086, 1073, 2090] G G' ∧ (rW Γ w 1 (wGo A t i W) G' ∧ G'.1 1073 w 0 = G.1 1073 w 0 + (wFlour (wCod A W t i) (G.1 1072 w 0) - wFlour (wGo A t i W) (G.1 1072 w 0)) ∧ LO G G' ∧ zsj [2079, 2080] G G')))) args s 0 0 (zA Γ)) 7 [some (zr 10 w), some (zi 1), some (zi x2), some (zj x3), none, some (zi x5), none, none, none] [] G1 := by
    intro nn
    induction nn with
    | zero => intro x2 x3 x5 G1 h7_0 h7_1 h7_2 h7_3 h7_4 hm; exact absurd hm (Nat.not_lt_zero _)
    | succ nn ih7 =>
      intro x2 x3 x5 G1 h7_0 h7_1 h7_2 h7_3 h7_4 hm7
      refine zs_iload (pc := 7) C dX9_goesBy_7 rfl ?_
      refine zs_aload_n (pc := 9) C dX9_goesBy_9 rfl ?_
      refine zs_geti (r := 1013) (pc := 10) C dX9_goesBy_10 w_X9_261 f_10_13 rfl (r_1013 0) (fun v10 e10 l10 u10 => ?_)
      have y10 : v10 = A 4 1 := e10.trans (by rw [h7_3.1 1013 (by decide)]; exact k13)
      refine zs_icmp_ge (tgt := 121) (pc := 13) C dX9_goesBy_13 (by decide) (fun h13 => ?_) (fun h13 => ?_)
      · skip
        have J145 : ∀ (G5 : zH), (zsm [1050, 2091, 2092, 2093, 2094, 2095, 2088, 2087, 2082, 2084, 2083, 2089] G G5) → (rW Γ w 1 (wCod A W t i) G5) → (zsj [2079, 2080] G G5) → (LO G G5) → (G5.1 1073 w 0 = G.1 1073 w 0 ∧ G5.1 1072 w 0 = G.1 1072 w 0) → Z p l e (zrm 6) s m args below meth c Γ 9 0 0 (MQ below (zQc Γ (zpv (fun G' => zsm [1050, 2091, 2092, 2093, 2094, 2095, 2088, 2087, 2082, 2084, 2083, 2089, 2086, 1073, 2090] G G' ∧ (rW Γ w 1 (wGo A t i W) G' ∧ G'.1 1073 w 0 = G.1 1073 w 0 + (wFlour (wCod A W t i) (G.1 1072 w 0) - wFlour (wGo A t i W) (G.1 1072 w 0)) ∧ LO G G' ∧ zsj [2079, 2080] G G')))) args s 0 0 (zA Γ)) 145 [some (zr 10 w), some (zi 1), none, none, none, none, none, none, none] [] G5 := by
          intro G5 h145_0 h145_1 h145_2 h145_3 h145_4
          have hWC := WI_cod (t := t) (i := i) hT hW
          refine zs_iconst (pc := 145) C dX9_goesBy_145 (by decide) ?_
          refine zs_istore (pc := 146) C dX9_goesBy_146 (by decide) ?_
          dsimp only [zset, zclr, znone]
          have L148 : ∀ (nn : Nat) (x5 : Int) (G6 : zH), (0 ≤ x5 ∧ x5 ≤ A 4 2) → (zsm [1050, 2091, 2092, 2093, 2094, 2095, 2088, 2087, 2082, 2084, 2083, 2089, 2086, 1073] G G6) → (rW Γ w 1 (wBd A x5.toNat (wCod A W t i)) G6) → (zsj [2079, 2080] G G6) → (LO G G6) → (G6.1 1073 w 0 = G.1 1073 w 0 + (wFlour (wCod A W t i) (G.1 1072 w 0) - wFlour (wBd A x5.toNat (wCod A W t i)) (G.1 1072 w 0))) → (5 - x5).toNat < nn → Z p l e (zrm 6) s m args below meth c Γ 9 0 0 (MQ below (zQc Γ (zpv (fun G' => zsm [1050, 2091, 2092, 2093, 2094, 2095, 2088, 2087, 2082, 2084, 2083, 2089, 2086, 1073, 2090] G G' ∧ (rW Γ w 1 (wGo A t i W) G' ∧ G'.1 1073 w 0 = G.1 1073 w 0 + (wFlour (wCod A W t i) (G.1 1072 w 0) - wFlour (wGo A t i W) (G.1 1072 w 0)) ∧ LO G G' ∧ zsj [2079, 2080] G G')))) args s 0 0 (zA Γ)) 148 [some (zr 10 w), some (zi 1), none, none, none, some (zi x5), none, none, none] [] G6 := by
            intro nn
            induction nn with
            | zero => intro x5 G6 h148_0 h148_1 h148_2 h148_3 h148_4 h148_5 hm; exact absurd hm (Nat.not_lt_zero _)
            | succ nn ih148 =>
              intro x5 G6 h148_0 h148_1 h148_2 h148_3 h148_4 h148_5 hm148
              refine zs_iload (pc := 148) C dX9_goesBy_148 rfl ?_
              refine zs_aload_n (pc := 150) C dX9_goesBy_150 rfl ?_
              refine zs_geti (r := 1014) (pc := 151) C dX9_goesBy_151 w_X9_264 f_10_14 rfl (r_1014 0) (fun v151 e151 l151 u151 => ?_)
              have y151 : v151 = A 4 2 := e151.trans (by rw [h148_1.1 1014 (by decide)]; exact k14)
              refine zs_icmp_ge (tgt := 196) (pc := 154) C dX9_goesBy_154 (by decide) (fun h154 => ?_) (fun h154 => ?_)
              · skip
                have hx5 : x5 = A 4 2 := by omega
                rw [hx5] at h148_2 h148_5
                have hbe := WI_bd hT hWC.1 (A 4 2).toNat (by omega)
                obtain ⟨-, -, ⟨-, -, -, q6⟩, -⟩ := id h148_2
                have hd18 := hW.2.2.2.2.2.1
                refine zs_aload_n (pc := 196) C dX9_goesBy_196 rfl ?_
                refine zs_getf (pc := 197) C dX9_goesBy_197 w_X9_115 f_10_60 (by decide) ?_
                refine zs_iload_n (pc := 200) C dX9_goesBy_200 rfl ?_
                refine zs_dup2 (pc := 201) C dX9_goesBy_201 ?_
                refine zs_iald (r := 2090) (pc := 202) C dX9_goesBy_202 a_90 (by decide) (by omega) rfl (r_2090 _) (fun v202 e202 l202 u202 => ?_)
                have y202 : v202 = W 18 0 := (e202.trans q6).trans (hbe.2.trans hWC.2)
                refine zs_iconst (pc := 203) C dX9_goesBy_203 (by decide) ?_
                first | refine zs_iadd (pc := 204) C dX9_goesBy_204 (by omega) ?_ | refine zs_iaddF (pc := 204) C dX9_goesBy_204 (fun z204 hz2041 hz2042 => ?_)
                refine zs_iast (r := 2090) (pc := 205) C dX9_goesBy_205 a_90 (by decide) (by omega) rfl (r_2090 _) (by omega) ?_
                exact zs_vret (pc := 206) C hr hlk dX9_goesBy_206 ⟨by repeat (first | exact zsm_rf | assumption | refine zsm_C (by decide) ?_ | refine zsm_I (by decide) ?_ | refine zsm_J ?_ | refine zsm_c (by assumption) (by decide) ?_), ⟨(by have q := rW_d (v := v202 + 1) (by decide) h148_2; rw [y202] at q ⊢; exact q), (by unfold wGo; rw [wFlour_d]; simp only [zuI_1, zuI_2, zuJ_1, zuJ_2, zuJ_3, zuP_1, zuP_2, zuP_3, zuC_1, zuC_2, reduceIte, Nat.reduceEqDiff, false_and, and_false, true_and, and_true, and_self, or_true, true_or, or_false, false_or]; exact h148_5), (LO_I (by show 1 ≤ _; decide) h148_4), (by repeat (first | exact zsj_rf | assumption | refine zsj_I ?_ | refine zsj_J (by decide) ?_ | refine zsj_e (by assumption) ?_ | refine zsj_c (by assumption) (by decide) ?_))⟩⟩
              · skip
                have hbd := WI_bd hT hWC.1 x5.toNat (by omega)
                have hbs := wBd_s (A := A) (W := (wCod A W t i)) (k := x5) (by omega)
                have hK6 : kR Γ w A G6 := kR_sm h148_1 (by decide) hK
                obtain ⟨-, -, ⟨-, -, -, q6⟩, -⟩ := id h148_2
                have k6 := (hK6.2.2.2.2.2.2.1 x5.toNat (by omega)).2.2.2
                refine zs_aload_n (pc := 157) C dX9_goesBy_157 rfl ?_
                refine zs_getf (pc := 158) C dX9_goesBy_158 w_X9_51 f_10_32 (by decide) ?_
                refine zs_iload (pc := 161) C dX9_goesBy_161 rfl ?_
                refine zs_iald (r := 2069) (pc := 163) C dX9_goesBy_163 a_69 (by decide) (by omega) rfl (r_2069 _) (fun v163 e163 l163 u163 => ?_)
                refine zs_aload_n (pc := 164) C dX9_goesBy_164 rfl ?_
                refine zs_getf (pc := 165) C dX9_goesBy_165 w_X9_115 f_10_60 (by decide) ?_
                refine zs_iload_n (pc := 168) C dX9_goesBy_168 rfl ?_
                refine zs_iald (r := 2090) (pc := 169) C dX9_goesBy_169 a_90 (by decide) (by omega) rfl (r_2090 _) (fun v169 e169 l169 u169 => ?_)
                have y163 : v163 = A 11 x5.toNat := e163.trans k6
                have y169 : v169 = (wBd A x5.toNat (wCod A W t i)) 18 0 := e169.trans q6
                refine zs_icmp_ne (tgt := 190) (pc := 170) C dX9_goesBy_170 (by decide) (fun h170 => ?_) (fun h170 => ?_)
                · skip
                  rw [if_neg (by omega)] at hbs
                  have hRn : rW Γ w 1 (wBd A (x5 + 1).toNat (wCod A W t i)) G6 := by rw [hbs]; exact h148_2
                  have hTn : G6.1 1073 w 0 = G.1 1073 w 0 + (wFlour (wCod A W t i) (G.1 1072 w 0) - wFlour (wBd A (x5 + 1).toNat (wCod A W t i)) (G.1 1072 w 0)) := by rw [hbs]; exact h148_5
                  first | refine zs_iinc (pc := 190) C dX9_goesBy_190 rfl (by decide) (by omega) ?_ | refine zs_iincF (pc := 190) C dX9_goesBy_190 rfl (by decide) (fun z190 hz1901 hz1902 => ?_)
                  dsimp only [zset, zclr, znone]
                  refine zs_goto (tgt := 148) (pc := 193) C dX9_goesBy_193 (by decide) ?_
                  exact zs_wk (ih148 _ _ (by omega) (by repeat (first | exact zsm_rf | assumption | refine zsm_C (by decide) ?_ | refine zsm_I (by decide) ?_ | refine zsm_J ?_ | refine zsm_c (by assumption) (by decide) ?_)) hRn (by repeat (first | exact zsj_rf | assumption | refine zsj_I ?_ | refine zsj_J (by decide) ?_ | refine zsj_e (by assumption) ?_ | refine zsj_c (by assumption) (by decide) ?_)) (by first | exact hO187 | exact h148_4) hTn (by first | omega | (simp only [zuI_1, zuI_2, zuJ_1, zuJ_2, zuJ_3, zuP_1, zuP_2, zuP_3, zuC_1, zuC_2, reduceIte, Nat.reduceEqDiff, false_and, and_false, true_and, and_true, and_self, or_true, true_or, or_false, false_or]; omega))) (zwk_s rfl (zwk_s rfl (zwk_n (zwk_n (zwk_n (zwk_s rfl (zwk_n (zwk_n (zwk_n zwk_0)))))))))
                · skip
                  refine zs_aload_n (pc := 173) C dX9_goesBy_173 rfl ?_
                  refine zs_iload_n (pc := 174) C dX9_goesBy_174 rfl ?_
                  refine zs_iload (pc := 175) C dX9_goesBy_175 rfl ?_
                  refine zVip2 (pc := 177) C dX9_goesBy_177 v_X9_474 (c_X9_canBakeW1 hX (by omega) h148_2 hK6 hbd.1 hT) (by decide) (by decide) ⟨Nat.zero_le _, Nat.zero_le _⟩ (Nat.le_of_ble_eq_true rfl) (fun x177 l177 u177 hp177 => ?_)
                  have hq177 := hp177
                  refine zs_if_eq (tgt := 190) (pc := 180) C dX9_goesBy_180 (by decide) (fun h180 => ?_) (fun h180 => ?_)
                  · skip
                    have hnb : ¬ wCanB A (wBd A x5.toNat (wCod A W t i)) x5 := fun q => by have := hq177.2.mpr ⟨by omega, q⟩; omega
                    rw [if_pos (by omega), wBake_no hnb] at hbs
                    have hRn : rW Γ w 1 (wBd A (x5 + 1).toNat (wCod A W t i)) G6 := by rw [hbs]; exact h148_2
                    have hTn : G6.1 1073 w 0 = G.1 1073 w 0 + (wFlour (wCod A W t i) (G.1 1072 w 0) - wFlour (wBd A (x5 + 1).toNat (wCod A W t i)) (G.1 1072 w 0)) := by rw [hbs]; exact h148_5
                    first | refine zs_iinc (pc := 190) C dX9_goesBy_190 rfl (by decide) (by omega) ?_ | refine zs_iincF (pc := 190) C dX9_goesBy_190 rfl (by decide) (fun z190 hz1901 hz1902 => ?_)
                    dsimp only [zset, zclr, znone]
                    refine zs_goto (tgt := 148) (pc := 193) C dX9_goesBy_193 (by decide) ?_
                    exact zs_wk (ih148 _ _ (by omega) (by repeat (first | exact zsm_rf | assumption | refine zsm_C (by decide) ?_ | refine zsm_I (by decide) ?_ | refine zsm_J ?_ | refine zsm_c (by assumption) (by decide) ?_)) hRn (by repeat (first | exact zsj_rf | assumption | refine zsj_I ?_ | refine zsj_J (by decide) ?_ | refine zsj_e (by assumption) ?_ | refine zsj_c (by assumption) (by decide) ?_)) (by first | exact hO187 | exact h148_4) hTn (by first | omega | (simp only [zuI_1, zuI_2, zuJ_1, zuJ_2, zuJ_3, zuP_1, zuP_2, zuP_3, zuC_1, zuC_2, reduceIte, Nat.reduceEqDiff, false_and, and_false, true_and, and_true, and_self, or_true, true_or, or_false, false_or]; omega))) (zwk_s rfl (zwk_s rfl (zwk_n (zwk_n (zwk_n (zwk_s rfl (zwk_n (zwk_n (zwk_n zwk_0)))))))))
                  · skip
                    have hcb : wCanB A (wBd A x5.toNat (wCod A W t i)) x5 := (hq177.2.mp (by omega)).2
                    have hi1 := wFlour_in hWC.1 (G.1 1072 w 0)
                    have hi2 := wFlour_in hbd.1 (G.1 1072 w 0)
                    refine zs_aload_n (pc := 183) C dX9_goesBy_183 rfl ?_
                    refine zs_iload_n (pc := 184) C dX9_goesBy_184 rfl ?_
                    refine zs_iload (pc := 185) C dX9_goesBy_185 rfl ?_
                    refine zVv2 (pc := 187) C dX9_goesBy_187 v_X9_477 (c_X9_bakesW1 hX (by omega) h148_2 hK6 hbd.1 hT hcb (by omega)) (by decide) (by decide) ⟨Nat.zero_le _, Nat.zero_le _⟩ (Nat.le_of_ble_eq_true rfl) (fun G187 hp187 => ?_)
                    obtain ⟨hz187, hq187⟩ := hp187
                    rw [if_pos (by omega)] at hbs
                    have hRn : rW Γ w 1 (wBd A (x5 + 1).toNat (wCod A W t i)) G187 := by rw [hbs]; exact hq187.1
                    have hf6 : G6.1 1072 w 0 = G.1 1072 w 0 := h148_1.1 1072 (by decide) ▸ rfl
                    have hTn : G187.1 1073 w 0 = G.1 1073 w 0 + (wFlour (wCod A W t i) (G.1 1072 w 0) - wFlour (wBd A (x5 + 1).toNat (wCod A W t i)) (G.1 1072 w 0)) := by
                      have q := hq187.2.1
                      rw [hf6] at q
                      rw [hbs, q, h148_5]
                      omega
                    have hO187 : LO G G187 := LO_t hq187.2.2.1 h148_4
                    have hj187 := hq187.2.2.2
                    first | refine zs_iinc (pc := 190) C dX9_goesBy_190 rfl (by decide) (by omega) ?_ | refine zs_iincF (pc := 190) C dX9_goesBy_190 rfl (by decide) (fun z190 hz1901 hz1902 => ?_)
                    dsimp only [zset, zclr, znone]
                    refine zs_goto (tgt := 148) (pc := 193) C dX9_goesBy_193 (by decide) ?_
                    exact zs_wk (ih148 _ _ (by omega) (by repeat (first | exact zsm_rf | assumption | refine zsm_C (by decide) ?_ | refine zsm_I (by decide) ?_ | refine zsm_J ?_ | refine zsm_c (by assumption) (by decide) ?_)) hRn (by repeat (first | exact zsj_rf | assumption | refine zsj_I ?_ | refine zsj_J (by decide) ?_ | refine zsj_e (by assumption) ?_ | refine zsj_c (by assumption) (by decide) ?_)) (by first | exact hO187 | exact h148_4) hTn (by first | omega | (simp only [zuI_1, zuI_2, zuJ_1, zuJ_2, zuJ_3, zuP_1, zuP_2, zuP_3, zuC_1, zuC_2, reduceIte, Nat.reduceEqDiff, false_and, and_false, true_and, and_true, and_self, or_true, true_or, or_false, false_or]; omega))) (zwk_s rfl (zwk_s rfl (zwk_n (zwk_n (zwk_n (zwk_s rfl (zwk_n (zwk_n (zwk_n zwk_0)))))))))
          exact zs_wk (L148 _ _ _ (by omega) (by repeat (first | exact zsm_rf | assumption | refine zsm_C (by decide) ?_ | refine zsm_I (by decide) ?_ | refine zsm_J ?_ | refine zsm_c (by assumption) (by decide) ?_)) (by exact h145_1) (by repeat (first | exact zsj_rf | assumption | refine zsj_I ?_ | refine zsj_J (by decide) ?_ | refine zsj_e (by assumption) ?_ | refine zsj_c (by assumption) (by decide) ?_)) h145_3 (by rw [h145_4.1]; show _ = _ + (wFlour (wCod A W t i) _ - wFlour (wCod A W t i) _); omega) (Nat.lt_succ_self _)) (zwk_s rfl (zwk_s rfl (zwk_n (zwk_n (zwk_n (zwk_s rfl (zwk_n (zwk_n (zwk_n zwk_0)))))))))
        have hx5 : x5 = A 4 1 := by omega
        rw [hx5] at h7_1 h7_2
        have hbi := wBest_in (A := A) (W := W) (t := t) (i := i) (A 4 1 * 4).toNat
        rw [← h7_1, ← h7_2] at hbi
        have hWC := WI_cod (t := t) (i := i) hT hW
        have hR1 : rW Γ w 1 W G1 := rW_sm h7_3 (by decide) hR
        have hK1 : kR Γ w A G1 := kR_sm h7_3 (by decide) hK
        have hO1 : LO G G1 := LO_z h7_3 (by decide) LO_rf
        refine zs_iload_n (pc := 121) C dX9_goesBy_121 rfl ?_
        refine zs_if_lt (tgt := 145) (pc := 122) C dX9_goesBy_122 (by decide) (fun h122 => ?_) (fun h122 => ?_)
        · skip
          have hcd : (wCod A W t i) = W := by unfold wCod; rw [if_neg (fun q => q.2 (by rw [← h7_1]; omega))]
          have hRn : rW Γ w 1 (wCod A W t i) G1 := by rw [hcd]; exact hR1
          have hSn := hO1
          exact zs_wk (J145 _ (by repeat (first | exact zsm_rf | assumption | refine zsm_C (by decide) ?_ | refine zsm_I (by decide) ?_ | refine zsm_J ?_ | refine zsm_c (by assumption) (by decide) ?_)) hRn (by repeat (first | exact zsj_rf | assumption | refine zsj_I ?_ | refine zsj_J (by decide) ?_ | refine zsj_e (by assumption) ?_ | refine zsj_c (by assumption) (by decide) ?_)) hSn ⟨by first | (rw [hz141.1 1073 (by decide), h7_3.1 1073 (by decide)]) | (rw [h7_3.1 1073 (by decide)]), by first | (rw [hz141.1 1072 (by decide), h7_3.1 1072 (by decide)]) | (rw [h7_3.1 1072 (by decide)])⟩) (zwk_s rfl (zwk_s rfl (zwk_n (zwk_n (zwk_n (zwk_n (zwk_n (zwk_n (zwk_n zwk_0)))))))))
        · skip
          refine zs_aload_n (pc := 125) C dX9_goesBy_125 rfl ?_
          refine zs_iload_n (pc := 126) C dX9_goesBy_126 rfl ?_
          refine zVip1 (pc := 127) C dX9_goesBy_127 v_X9_439 (c_X9_canGrindW hX (Or.inr rfl) hR1) (by decide) (by decide) ⟨Nat.zero_le _, Nat.zero_le _⟩ (Nat.le_of_ble_eq_true rfl) (fun x127 l127 u127 hp127 => ?_)
          have hq127 := hp127
          refine zs_if_eq (tgt := 145) (pc := 130) C dX9_goesBy_130 (by decide) (fun h130 => ?_) (fun h130 => ?_)
          · skip
            have hcd : (wCod A W t i) = W := by unfold wCod; rw [if_neg (fun q => by have := hq127.2.mpr q.1; omega)]
            have hRn : rW Γ w 1 (wCod A W t i) G1 := by rw [hcd]; exact hR1
            have hSn := hO1
            exact zs_wk (J145 _ (by repeat (first | exact zsm_rf | assumption | refine zsm_C (by decide) ?_ | refine zsm_I (by decide) ?_ | refine zsm_J ?_ | refine zsm_c (by assumption) (by decide) ?_)) hRn (by repeat (first | exact zsj_rf | assumption | refine zsj_I ?_ | refine zsj_J (by decide) ?_ | refine zsj_e (by assumption) ?_ | refine zsj_c (by assumption) (by decide) ?_)) hSn ⟨by first | (rw [hz141.1 1073 (by decide), h7_3.1 1073 (by decide)]) | (rw [h7_3.1 1073 (by decide)]), by first | (rw [hz141.1 1072 (by decide), h7_3.1 1072 (by decide)]) | (rw [h7_3.1 1072 (by decide)])⟩) (zwk_s rfl (zwk_s rfl (zwk_n (zwk_n (zwk_n (zwk_n (zwk_n (zwk_n (zwk_n zwk_0)))))))))
          · skip
            have hcan : wCan W := hq127.2.mp (by omega)
            have hps := WI_ps hW (m := x2) (by omega) (by omega)
            have hcd : (wCod A W t i) = wGrind A W (x2 / 4) (x2 % 4) (if t = 0 then 0 else 1) := by unfold wCod; rw [← h7_1, if_pos ⟨hcan, by omega⟩]
            refine zs_aload_n (pc := 133) C dX9_goesBy_133 rfl ?_
            refine zs_iload_n (pc := 134) C dX9_goesBy_134 rfl ?_
            refine zs_iload_n (pc := 135) C dX9_goesBy_135 rfl ?_
            refine zs_iconst (pc := 136) C dX9_goesBy_136 (by decide) ?_
            first | refine zs_idiv (pc := 137) C dX9_goesBy_137 (by omega) (by omega) (fun hz1371 hz1372 => ?_) | refine zs_idivF (pc := 137) C dX9_goesBy_137 (by omega) (fun z137 hz1371 hz1372 => ?_)
            refine zs_iload_n (pc := 138) C dX9_goesBy_138 rfl ?_
            refine zs_iconst (pc := 139) C dX9_goesBy_139 (by decide) ?_
            first | refine zs_irem (pc := 140) C dX9_goesBy_140 (by omega) (by omega) (fun hz1401 hz1402 => ?_) | refine zs_iremF (pc := 140) C dX9_goesBy_140 (by omega) (fun z140 hz1401 hz1402 => ?_)
            refine zVi3 (pc := 141) C dX9_goesBy_141 v_X9_445 (c_X9_grindsW1 (wr := if t = 0 then 0 else 1) hX (by omega) (by omega) hR1 hK1 hW hT (by omega) (by omega) hcan (by rw [h7_3.1 1074 (by decide), hway]; exact wr_if)) (by decide) (by decide) ⟨Nat.zero_le _, Nat.zero_le _⟩ (Nat.le_of_ble_eq_true rfl) (fun x141 G141 l141 u141 hp141 => ?_)
            obtain ⟨hz141, hq141⟩ := hp141
            have hRn : rW Γ w 1 (wCod A W t i) G141 := by rw [hcd]; exact hq141.2.1
            have hj141 := hq141.2.2.1
            have hSn : LO G G141 := LO_t hq141.2.2.2 hO1
            refine zs_popi (pc := 144) C dX9_goesBy_144 ?_
            exact zs_wk (J145 _ (by repeat (first | exact zsm_rf | assumption | refine zsm_C (by decide) ?_ | refine zsm_I (by decide) ?_ | refine zsm_J ?_ | refine zsm_c (by assumption) (by decide) ?_)) hRn (by repeat (first | exact zsj_rf | assumption | refine zsj_I ?_ | refine zsj_J (by decide) ?_ | refine zsj_e (by assumption) ?_ | refine zsj_c (by assumption) (by decide) ?_)) hSn ⟨by first | (rw [hz141.1 1073 (by decide), h7_3.1 1073 (by decide)]) | (rw [h7_3.1 1073 (by decide)]), by first | (rw [hz141.1 1072 (by decide), h7_3.1 1072 (by decide)]) | (rw [h7_3.1 1072 (by decide)])⟩) (zwk_s rfl (zwk_s rfl (zwk_n (zwk_n (zwk_n (zwk_n (zwk_n (zwk_n (zwk_n zwk_0)))))))))
      · skip
        refine zs_iconst (pc := 16) C dX9_goesBy_16 (by decide) ?_
        refine zs_istore (pc := 17) C dX9_goesBy_17 (by decide) ?_
        dsimp only [zset, zclr, znone]
        have L19 : ∀ (nn : Nat) (x2 x3 x6 : Int) (G2 : zH), (0 ≤ x6 ∧ x6 ≤ A 4 0) → (x2 = (wBest A W t i (x5 * 4 + x6).toNat).1) → (x3 = (wBest A W t i (x5 * 4 + x6).toNat).2) → (zsm [1050] G G2) → (zsj [2079, 2080] G G2) → (4 - x6).toNat < nn → Z p l e (zrm 6) s m args below meth c Γ 9 0 0 (MQ below (zQc Γ (zpv (fun G' => zsm [1050, 2091, 2092, 2093, 2094, 2095, 2088, 2087, 2082, 2084, 2083, 2089, 2086, 1073, 2090] G G' ∧ (rW Γ w 1 (wGo A t i W) G' ∧ G'.1 1073 w 0 = G.1 1073 w 0 + (wFlour (wCod A W t i) (G.1 1072 w 0) - wFlour (wGo A t i W) (G.1 1072 w 0)) ∧ LO G G' ∧ zsj [2079, 2080] G G')))) args s 0 0 (zA Γ)) 19 [some (zr 10 w), some (zi 1), some (zi x2), some (zj x3), none, some (zi x5), some (zi x6), none, none] [] G2 := by
          intro nn
          induction nn with
          | zero => intro x2 x3 x6 G2 h19_0 h19_1 h19_2 h19_3 h19_4 hm; exact absurd hm (Nat.not_lt_zero _)
          | succ nn ih19 =>
            intro x2 x3 x6 G2 h19_0 h19_1 h19_2 h19_3 h19_4 hm19
            refine zs_iload (pc := 19) C dX9_goesBy_19 rfl ?_
            refine zs_aload_n (pc := 21) C dX9_goesBy_21 rfl ?_
            refine zs_geti (r := 1012) (pc := 22) C dX9_goesBy_22 w_X9_258 f_10_12 rfl (r_1012 0) (fun v22 e22 l22 u22 => ?_)
            have y22 : v22 = A 4 0 := e22.trans (by rw [h19_3.1 1012 (by decide)]; exact k12)
            refine zs_icmp_ge (tgt := 115) (pc := 25) C dX9_goesBy_25 (by decide) (fun h25 => ?_) (fun h25 => ?_)
            · skip
              have hx6 : x6 = A 4 0 := by omega
              rw [hx6, ← wBest_p hT hW (by omega)] at h19_1 h19_2
              first | refine zs_iinc (pc := 115) C dX9_goesBy_115 rfl (by decide) (by omega) ?_ | refine zs_iincF (pc := 115) C dX9_goesBy_115 rfl (by decide) (fun z115 hz1151 hz1152 => ?_)
              dsimp only [zset, zclr, znone]
              refine zs_goto (tgt := 7) (pc := 118) C dX9_goesBy_118 (by decide) ?_
              exact zs_wk (ih7 _ _ _ _ (by omega) h19_1 h19_2 (by repeat (first | exact zsm_rf | assumption | refine zsm_C (by decide) ?_ | refine zsm_I (by decide) ?_ | refine zsm_J ?_ | refine zsm_c (by assumption) (by decide) ?_)) (by repeat (first | exact zsj_rf | assumption | refine zsj_I ?_ | refine zsj_J (by decide) ?_ | refine zsj_e (by assumption) ?_ | refine zsj_c (by assumption) (by decide) ?_)) (by first | omega | (simp only [zuI_1, zuI_2, zuJ_1, zuJ_2, zuJ_3, zuP_1, zuP_2, zuP_3, zuC_1, zuC_2, reduceIte, Nat.reduceEqDiff, false_and, and_false, true_and, and_true, and_self, or_true, true_or, or_false, false_or]; omega))) (zwk_s rfl (zwk_s rfl (zwk_s rfl (zwk_s rfl (zwk_n (zwk_s rfl (zwk_n (zwk_n (zwk_n zwk_0)))))))))
            · skip
              have J109 : ∀ (y2 y3 : Int) (G3 : zH), (y2 = (wBest A W t i (x5 * 4 + (x6 + 1)).toNat).1) → (y3 = (wBest A W t i (x5 * 4 + (x6 + 1)).toNat).2) → (zsm [1050] G G3) → (zsj [2079, 2080] G G3) → Z p l e (zrm 6) s m args below meth c Γ 9 0 0 (MQ below (zQc Γ (zpv (fun G' => zsm [1050, 2091, 2092, 2093, 2094, 2095, 2088, 2087, 2082, 2084, 2083, 2089, 2086, 1073, 2090] G G' ∧ (rW Γ w 1 (wGo A t i W) G' ∧ G'.1 1073 w 0 = G.1 1073 w 0 + (wFlour (wCod A W t i) (G.1 1072 w 0) - wFlour (wGo A t i W) (G.1 1072 w 0)) ∧ LO G G' ∧ zsj [2079, 2080] G G')))) args s 0 0 (zA Γ)) 109 [some (zr 10 w), some (zi 1), some (zi y2), some (zj y3), none, some (zi x5), some (zi x6), none, none] [] G3 := by
                intro y2 y3 G3 h109_0 h109_1 h109_2 h109_3
                first | refine zs_iinc (pc := 109) C dX9_goesBy_109 rfl (by decide) (by omega) ?_ | refine zs_iincF (pc := 109) C dX9_goesBy_109 rfl (by decide) (fun z109 hz1091 hz1092 => ?_)
                dsimp only [zset, zclr, znone]
                refine zs_goto (tgt := 19) (pc := 112) C dX9_goesBy_112 (by decide) ?_
                exact zs_wk (ih19 _ _ _ _ (by omega) h109_0 h109_1 h109_2 h109_3 (by first | omega | (simp only [zuI_1, zuI_2, zuJ_1, zuJ_2, zuJ_3, zuP_1, zuP_2, zuP_3, zuC_1, zuC_2, reduceIte, Nat.reduceEqDiff, false_and, and_false, true_and, and_true, and_self, or_true, true_or, or_false, false_or]; omega))) (zwk_s rfl (zwk_s rfl (zwk_s rfl (zwk_s rfl (zwk_n (zwk_s rfl (zwk_s rfl (zwk_n (zwk_n zwk_0)))))))))
              have hbi := wBest_in (A := A) (W := W) (t := t) (i := i) (x5 * 4 + x6).toNat
              rw [← h19_1, ← h19_2] at hbi
              have hbn := wBest_n (A := A) (W := W) (t := t) (i := i) (p := x5) (s := x6) (by omega) (by omega) h19_1 h19_2
              have hll := WI_WL hW (x5 * 4 + x6).toNat (by omega)
              refine zs_aload_n (pc := 28) C dX9_goesBy_28 rfl ?_
              refine zs_iload_n (pc := 29) C dX9_goesBy_29 rfl ?_
              refine zs_iload (pc := 30) C dX9_goesBy_30 rfl ?_
              refine zs_iload (pc := 32) C dX9_goesBy_32 rfl ?_
              refine zVip3 (pc := 34) C dX9_goesBy_34 v_X9_394 (c_X9_leftOfW hX (Or.inr rfl) (by omega) (by omega) (rL_sm h19_3 (by decide) hL0) (WI_WL hW)) (by decide) (by decide) ⟨Nat.zero_le _, Nat.zero_le _⟩ (Nat.le_of_ble_eq_true rfl) (fun x34 l34 u34 hp34 => ?_)
              have hq34 := hp34
              have hq34b : x34 = W 12 (x5 * 4 + x6).toNat := hq34
              refine zs_if_eq (tgt := 109) (pc := 37) C dX9_goesBy_37 (by decide) (fun h37 => ?_) (fun h37 => ?_)
              · skip
                have hst := hbn.1 (by rw [if_neg (by omega)]; omega)
                exact zs_wk (J109 _ _ _ hst.1 hst.2 (by repeat (first | exact zsm_rf | assumption | refine zsm_C (by decide) ?_ | refine zsm_I (by decide) ?_ | refine zsm_J ?_ | refine zsm_c (by assumption) (by decide) ?_)) (by repeat (first | exact zsj_rf | assumption | refine zsj_I ?_ | refine zsj_J (by decide) ?_ | refine zsj_e (by assumption) ?_ | refine zsj_c (by assumption) (by decide) ?_))) (zwk_s rfl (zwk_s rfl (zwk_s rfl (zwk_s rfl (zwk_n (zwk_s rfl (zwk_s rfl (zwk_n (zwk_n zwk_0)))))))))
              · skip
                refine zs_aload_n (pc := 40) C dX9_goesBy_40 rfl ?_
                refine zs_geti (r := 1074) (pc := 41) C dX9_goesBy_41 w_X9_148 f_10_74 rfl (r_1074 0) (fun v41 e41 l41 u41 => ?_)
                have y41 : v41 = t := e41.trans (by rw [h19_3.1 1074 (by decide)]; exact hway)
                refine zs_iconst (pc := 44) C dX9_goesBy_44 (by decide) ?_
                refine zs_icmp_ne (tgt := 57) (pc := 45) C dX9_goesBy_45 (by decide) (fun h45 => ?_) (fun h45 => ?_)
                · skip
                  refine zs_aload_n (pc := 57) C dX9_goesBy_57 rfl ?_
                  refine zs_geti (r := 1074) (pc := 58) C dX9_goesBy_58 w_X9_148 f_10_74 rfl (r_1074 0) (fun v58 e58 l58 u58 => ?_)
                  have y58 : v58 = t := e58.trans (by rw [h19_3.1 1074 (by decide)]; exact hway)
                  refine zs_iconst (pc := 61) C dX9_goesBy_61 (by decide) ?_
                  refine zs_icmp_ne (tgt := 77) (pc := 62) C dX9_goesBy_62 (by decide) (fun h62 => ?_) (fun h62 => ?_)
                  · skip
                    refine zs_aload_n (pc := 77) C dX9_goesBy_77 rfl ?_
                    refine zs_iload_n (pc := 78) C dX9_goesBy_78 rfl ?_
                    refine zs_iload (pc := 79) C dX9_goesBy_79 rfl ?_
                    refine zs_iload (pc := 81) C dX9_goesBy_81 rfl ?_
                    refine zVj3 (pc := 83) C dX9_goesBy_83 v_X9_485 (c_X9_wantOfW1 (t := t) (i := i) hX (by omega) (by omega) (rW_sm h19_3 (by decide) hR) (kR_sm h19_3 (by decide) hK) hW hT (by omega) (by omega) (by rw [h19_3.1 1074 (by decide)]; exact hway) (by omega)) (by decide) (by decide) ⟨Nat.zero_le _, Nat.zero_le _⟩ (Nat.le_of_ble_eq_true rfl) (fun x83 G83 l83 u83 hp83 => ?_)
                    obtain ⟨hz83, hq83⟩ := hp83
                    have hj83 := hq83.2
                    have hur := wUrge_in (A := A) (W := W) (p := x5) (s := x6) (t := t) (i := i) hT (by omega) (by omega)
                    refine zs_lstore (pc := 86) C dX9_goesBy_86 (by decide) ?_
                    dsimp only [zset, zclr, znone]
                    refine zs_lload (pc := 88) C dX9_goesBy_88 rfl ?_
                    refine zs_lload_n (pc := 90) C dX9_goesBy_90 rfl ?_
                    refine zs_lcmp (pc := 91) C dX9_goesBy_91 (fun z91 hz91 => ?_)
                    refine zs_if_gt (tgt := 98) (pc := 92) C dX9_goesBy_92 (by decide) (fun h92 => ?_) (fun h92 => ?_)
                    · skip
                      have hst : 4 * x5 + x6 = (wBest A W t i (x5 * 4 + (x6 + 1)).toNat).1 ∧ x83 = (wBest A W t i (x5 * 4 + (x6 + 1)).toNat).2 := by
                        have q := hbn.2 (by rw [if_pos (by omega), ← hq83.1]; omega)
                        rw [if_pos (by omega), ← hq83.1] at q
                        exact q
                      refine zs_iconst (pc := 98) C dX9_goesBy_98 (by decide) ?_
                      refine zs_iload (pc := 99) C dX9_goesBy_99 rfl ?_
                      first | refine zs_imul (pc := 101) C dX9_goesBy_101 (by omega) ?_ | refine zs_imulF (pc := 101) C dX9_goesBy_101 (fun z101 hz1011 hz1012 => ?_)
                      refine zs_iload (pc := 102) C dX9_goesBy_102 rfl ?_
                      first | refine zs_iadd (pc := 104) C dX9_goesBy_104 (by omega) ?_ | refine zs_iaddF (pc := 104) C dX9_goesBy_104 (fun z104 hz1041 hz1042 => ?_)
                      refine zs_istore_n (pc := 105) C dX9_goesBy_105 (by decide) ?_
                      dsimp only [zset, zclr, znone]
                      refine zs_lload (pc := 106) C dX9_goesBy_106 rfl ?_
                      refine zs_lstore_n (pc := 108) C dX9_goesBy_108 (by decide) ?_
                      dsimp only [zset, zclr, znone]
                      exact zs_wk (J109 _ _ _ hst.1 hst.2 (by repeat (first | exact zsm_rf | assumption | refine zsm_C (by decide) ?_ | refine zsm_I (by decide) ?_ | refine zsm_J ?_ | refine zsm_c (by assumption) (by decide) ?_)) (by repeat (first | exact zsj_rf | assumption | refine zsj_I ?_ | refine zsj_J (by decide) ?_ | refine zsj_e (by assumption) ?_ | refine zsj_c (by assumption) (by decide) ?_))) (zwk_s rfl (zwk_s rfl (zwk_s rfl (zwk_s rfl (zwk_n (zwk_s rfl (zwk_s rfl (zwk_n (zwk_n zwk_0)))))))))
                    · skip
                      have hst := hbn.1 (by rw [if_pos (by omega), ← hq83.1]; omega)
                      refine zs_goto (tgt := 109) (pc := 95) C dX9_goesBy_95 (by decide) ?_
                      exact zs_wk (J109 _ _ _ hst.1 hst.2 (by repeat (first | exact zsm_rf | assumption | refine zsm_C (by decide) ?_ | refine zsm_I (by decide) ?_ | refine zsm_J ?_ | refine zsm_c (by assumption) (by decide) ?_)) (by repeat (first | exact zsj_rf | assumption | refine zsj_I ?_ | refine zsj_J (by decide) ?_ | refine zsj_e (by assumption) ?_ | refine zsj_c (by assumption) (by decide) ?_))) (zwk_s rfl (zwk_s rfl (zwk_s rfl (zwk_s rfl (zwk_n (zwk_s rfl (zwk_s rfl (zwk_n (zwk_n zwk_0)))))))))
                  · skip
                    refine zs_aload_n (pc := 65) C dX9_goesBy_65 rfl ?_
                    refine zs_geti (r := 1075) (pc := 66) C dX9_goesBy_66 w_X9_482 f_10_75 rfl (r_1075 0) (fun v66 e66 l66 u66 => ?_)
                    have y66 : v66 = i := e66.trans (by rw [h19_3.1 1075 (by decide)]; exact hone (Or.inr (by omega)))
                    refine zs_iload (pc := 69) C dX9_goesBy_69 rfl ?_
                    refine zs_icmp_ne (tgt := 77) (pc := 71) C dX9_goesBy_71 (by decide) (fun h71 => ?_) (fun h71 => ?_)
                    · skip
                      refine zs_aload_n (pc := 77) C dX9_goesBy_77 rfl ?_
                      refine zs_iload_n (pc := 78) C dX9_goesBy_78 rfl ?_
                      refine zs_iload (pc := 79) C dX9_goesBy_79 rfl ?_
                      refine zs_iload (pc := 81) C dX9_goesBy_81 rfl ?_
                      refine zVj3 (pc := 83) C dX9_goesBy_83 v_X9_485 (c_X9_wantOfW1 (t := t) (i := i) hX (by omega) (by omega) (rW_sm h19_3 (by decide) hR) (kR_sm h19_3 (by decide) hK) hW hT (by omega) (by omega) (by rw [h19_3.1 1074 (by decide)]; exact hway) (by omega)) (by decide) (by decide) ⟨Nat.zero_le _, Nat.zero_le _⟩ (Nat.le_of_ble_eq_true rfl) (fun x83 G83 l83 u83 hp83 => ?_)
                      obtain ⟨hz83, hq83⟩ := hp83
                      have hj83 := hq83.2
                      have hur := wUrge_in (A := A) (W := W) (p := x5) (s := x6) (t := t) (i := i) hT (by omega) (by omega)
                      refine zs_lstore (pc := 86) C dX9_goesBy_86 (by decide) ?_
                      dsimp only [zset, zclr, znone]
                      refine zs_lload (pc := 88) C dX9_goesBy_88 rfl ?_
                      refine zs_lload_n (pc := 90) C dX9_goesBy_90 rfl ?_
                      refine zs_lcmp (pc := 91) C dX9_goesBy_91 (fun z91 hz91 => ?_)
                      refine zs_if_gt (tgt := 98) (pc := 92) C dX9_goesBy_92 (by decide) (fun h92 => ?_) (fun h92 => ?_)
                      · skip
                        have hst : 4 * x5 + x6 = (wBest A W t i (x5 * 4 + (x6 + 1)).toNat).1 ∧ x83 = (wBest A W t i (x5 * 4 + (x6 + 1)).toNat).2 := by
                          have q := hbn.2 (by rw [if_pos (by omega), ← hq83.1]; omega)
                          rw [if_pos (by omega), ← hq83.1] at q
                          exact q
                        refine zs_iconst (pc := 98) C dX9_goesBy_98 (by decide) ?_
                        refine zs_iload (pc := 99) C dX9_goesBy_99 rfl ?_
                        first | refine zs_imul (pc := 101) C dX9_goesBy_101 (by omega) ?_ | refine zs_imulF (pc := 101) C dX9_goesBy_101 (fun z101 hz1011 hz1012 => ?_)
                        refine zs_iload (pc := 102) C dX9_goesBy_102 rfl ?_
                        first | refine zs_iadd (pc := 104) C dX9_goesBy_104 (by omega) ?_ | refine zs_iaddF (pc := 104) C dX9_goesBy_104 (fun z104 hz1041 hz1042 => ?_)
                        refine zs_istore_n (pc := 105) C dX9_goesBy_105 (by decide) ?_
                        dsimp only [zset, zclr, znone]
                        refine zs_lload (pc := 106) C dX9_goesBy_106 rfl ?_
                        refine zs_lstore_n (pc := 108) C dX9_goesBy_108 (by decide) ?_
                        dsimp only [zset, zclr, znone]
                        exact zs_wk (J109 _ _ _ hst.1 hst.2 (by repeat (first | exact zsm_rf | assumption | refine zsm_C (by decide) ?_ | refine zsm_I (by decide) ?_ | refine zsm_J ?_ | refine zsm_c (by assumption) (by decide) ?_)) (by repeat (first | exact zsj_rf | assumption | refine zsj_I ?_ | refine zsj_J (by decide) ?_ | refine zsj_e (by assumption) ?_ | refine zsj_c (by assumption) (by decide) ?_))) (zwk_s rfl (zwk_s rfl (zwk_s rfl (zwk_s rfl (zwk_n (zwk_s rfl (zwk_s rfl (zwk_n (zwk_n zwk_0)))))))))
                      · skip
                        have hst := hbn.1 (by rw [if_pos (by omega), ← hq83.1]; omega)
                        refine zs_goto (tgt := 109) (pc := 95) C dX9_goesBy_95 (by decide) ?_
                        exact zs_wk (J109 _ _ _ hst.1 hst.2 (by repeat (first | exact zsm_rf | assumption | refine zsm_C (by decide) ?_ | refine zsm_I (by decide) ?_ | refine zsm_J ?_ | refine zsm_c (by assumption) (by decide) ?_)) (by repeat (first | exact zsj_rf | assumption | refine zsj_I ?_ | refine zsj_J (by decide) ?_ | refine zsj_e (by assumption) ?_ | refine zsj_c (by assumption) (by decide) ?_))) (zwk_s rfl (zwk_s rfl (zwk_s rfl (zwk_s rfl (zwk_n (zwk_s rfl (zwk_s rfl (zwk_n (zwk_n zwk_0)))))))))
                    · skip
                      have hst := hbn.1 (by rw [wUrge_0 (Or.inr ⟨by omega, by omega⟩)]; split <;> omega)
                      refine zs_goto (tgt := 109) (pc := 74) C dX9_goesBy_74 (by decide) ?_
                      exact zs_wk (J109 _ _ _ hst.1 hst.2 (by repeat (first | exact zsm_rf | assumption | refine zsm_C (by decide) ?_ | refine zsm_I (by decide) ?_ | refine zsm_J ?_ | refine zsm_c (by assumption) (by decide) ?_)) (by repeat (first | exact zsj_rf | assumption | refine zsj_I ?_ | refine zsj_J (by decide) ?_ | refine zsj_e (by assumption) ?_ | refine zsj_c (by assumption) (by decide) ?_))) (zwk_s rfl (zwk_s rfl (zwk_s rfl (zwk_s rfl (zwk_n (zwk_s rfl (zwk_s rfl (zwk_n (zwk_n zwk_0)))))))))
                · skip
                  refine zs_aload_n (pc := 48) C dX9_goesBy_48 rfl ?_
                  refine zs_geti (r := 1075) (pc := 49) C dX9_goesBy_49 w_X9_482 f_10_75 rfl (r_1075 0) (fun v49 e49 l49 u49 => ?_)
                  have y49 : v49 = i := e49.trans (by rw [h19_3.1 1075 (by decide)]; exact hone (Or.inl (by omega)))
                  refine zs_iload (pc := 52) C dX9_goesBy_52 rfl ?_
                  refine zs_icmp_eq (tgt := 109) (pc := 54) C dX9_goesBy_54 (by decide) (fun h54 => ?_) (fun h54 => ?_)
                  · skip
                    have hst := hbn.1 (by rw [wUrge_0 (Or.inl ⟨by omega, by omega⟩)]; split <;> omega)
                    exact zs_wk (J109 _ _ _ hst.1 hst.2 (by repeat (first | exact zsm_rf | assumption | refine zsm_C (by decide) ?_ | refine zsm_I (by decide) ?_ | refine zsm_J ?_ | refine zsm_c (by assumption) (by decide) ?_)) (by repeat (first | exact zsj_rf | assumption | refine zsj_I ?_ | refine zsj_J (by decide) ?_ | refine zsj_e (by assumption) ?_ | refine zsj_c (by assumption) (by decide) ?_))) (zwk_s rfl (zwk_s rfl (zwk_s rfl (zwk_s rfl (zwk_n (zwk_s rfl (zwk_s rfl (zwk_n (zwk_n zwk_0)))))))))
                  · skip
                    refine zs_aload_n (pc := 57) C dX9_goesBy_57 rfl ?_
                    refine zs_geti (r := 1074) (pc := 58) C dX9_goesBy_58 w_X9_148 f_10_74 rfl (r_1074 0) (fun v58 e58 l58 u58 => ?_)
                    have y58 : v58 = t := e58.trans (by rw [h19_3.1 1074 (by decide)]; exact hway)
                    refine zs_iconst (pc := 61) C dX9_goesBy_61 (by decide) ?_
                    refine zs_icmp_ne (tgt := 77) (pc := 62) C dX9_goesBy_62 (by decide) (fun h62 => ?_) (fun h62 => ?_)
                    · skip
                      refine zs_aload_n (pc := 77) C dX9_goesBy_77 rfl ?_
                      refine zs_iload_n (pc := 78) C dX9_goesBy_78 rfl ?_
                      refine zs_iload (pc := 79) C dX9_goesBy_79 rfl ?_
                      refine zs_iload (pc := 81) C dX9_goesBy_81 rfl ?_
                      refine zVj3 (pc := 83) C dX9_goesBy_83 v_X9_485 (c_X9_wantOfW1 (t := t) (i := i) hX (by omega) (by omega) (rW_sm h19_3 (by decide) hR) (kR_sm h19_3 (by decide) hK) hW hT (by omega) (by omega) (by rw [h19_3.1 1074 (by decide)]; exact hway) (by omega)) (by decide) (by decide) ⟨Nat.zero_le _, Nat.zero_le _⟩ (Nat.le_of_ble_eq_true rfl) (fun x83 G83 l83 u83 hp83 => ?_)
                      obtain ⟨hz83, hq83⟩ := hp83
                      have hj83 := hq83.2
                      have hur := wUrge_in (A := A) (W := W) (p := x5) (s := x6) (t := t) (i := i) hT (by omega) (by omega)
                      refine zs_lstore (pc := 86) C dX9_goesBy_86 (by decide) ?_
                      dsimp only [zset, zclr, znone]
                      refine zs_lload (pc := 88) C dX9_goesBy_88 rfl ?_
                      refine zs_lload_n (pc := 90) C dX9_goesBy_90 rfl ?_
                      refine zs_lcmp (pc := 91) C dX9_goesBy_91 (fun z91 hz91 => ?_)
                      refine zs_if_gt (tgt := 98) (pc := 92) C dX9_goesBy_92 (by decide) (fun h92 => ?_) (fun h92 => ?_)
                      · skip
                        have hst : 4 * x5 + x6 = (wBest A W t i (x5 * 4 + (x6 + 1)).toNat).1 ∧ x83 = (wBest A W t i (x5 * 4 + (x6 + 1)).toNat).2 := by
                          have q := hbn.2 (by rw [if_pos (by omega), ← hq83.1]; omega)
                          rw [if_pos (by omega), ← hq83.1] at q
                          exact q
                        refine zs_iconst (pc := 98) C dX9_goesBy_98 (by decide) ?_
                        refine zs_iload (pc := 99) C dX9_goesBy_99 rfl ?_
                        first | refine zs_imul (pc := 101) C dX9_goesBy_101 (by omega) ?_ | refine zs_imulF (pc := 101) C dX9_goesBy_101 (fun z101 hz1011 hz1012 => ?_)
                        refine zs_iload (pc := 102) C dX9_goesBy_102 rfl ?_
                        first | refine zs_iadd (pc := 104) C dX9_goesBy_104 (by omega) ?_ | refine zs_iaddF (pc := 104) C dX9_goesBy_104 (fun z104 hz1041 hz1042 => ?_)
                        refine zs_istore_n (pc := 105) C dX9_goesBy_105 (by decide) ?_
                        dsimp only [zset, zclr, znone]
                        refine zs_lload (pc := 106) C dX9_goesBy_106 rfl ?_
                        refine zs_lstore_n (pc := 108) C dX9_goesBy_108 (by decide) ?_
                        dsimp only [zset, zclr, znone]
                        exact zs_wk (J109 _ _ _ hst.1 hst.2 (by repeat (first | exact zsm_rf | assumption | refine zsm_C (by decide) ?_ | refine zsm_I (by decide) ?_ | refine zsm_J ?_ | refine zsm_c (by assumption) (by decide) ?_)) (by repeat (first | exact zsj_rf | assumption | refine zsj_I ?_ | refine zsj_J (by decide) ?_ | refine zsj_e (by assumption) ?_ | refine zsj_c (by assumption) (by decide) ?_))) (zwk_s rfl (zwk_s rfl (zwk_s rfl (zwk_s rfl (zwk_n (zwk_s rfl (zwk_s rfl (zwk_n (zwk_n zwk_0)))))))))
                      · skip
                        have hst := hbn.1 (by rw [if_pos (by omega), ← hq83.1]; omega)
                        refine zs_goto (tgt := 109) (pc := 95) C dX9_goesBy_95 (by decide) ?_
                        exact zs_wk (J109 _ _ _ hst.1 hst.2 (by repeat (first | exact zsm_rf | assumption | refine zsm_C (by decide) ?_ | refine zsm_I (by decide) ?_ | refine zsm_J ?_ | refine zsm_c (by assumption) (by decide) ?_)) (by repeat (first | exact zsj_rf | assumption | refine zsj_I ?_ | refine zsj_J (by decide) ?_ | refine zsj_e (by assumption) ?_ | refine zsj_c (by assumption) (by decide) ?_))) (zwk_s rfl (zwk_s rfl (zwk_s rfl (zwk_s rfl (zwk_n (zwk_s rfl (zwk_s rfl (zwk_n (zwk_n zwk_0)))))))))
                    · skip
                      refine zs_aload_n (pc := 65) C dX9_goesBy_65 rfl ?_
                      refine zs_geti (r := 1075) (pc := 66) C dX9_goesBy_66 w_X9_482 f_10_75 rfl (r_1075 0) (fun v66 e66 l66 u66 => ?_)
                      have y66 : v66 = i := e66.trans (by rw [h19_3.1 1075 (by decide)]; exact hone (Or.inr (by omega)))
                      refine zs_iload (pc := 69) C dX9_goesBy_69 rfl ?_
                      refine zs_icmp_ne (tgt := 77) (pc := 71) C dX9_goesBy_71 (by decide) (fun h71 => ?_) (fun h71 => ?_)
                      · skip
                        refine zs_aload_n (pc := 77) C dX9_goesBy_77 rfl ?_
                        refine zs_iload_n (pc := 78) C dX9_goesBy_78 rfl ?_
                        refine zs_iload (pc := 79) C dX9_goesBy_79 rfl ?_
                        refine zs_iload (pc := 81) C dX9_goesBy_81 rfl ?_
                        refine zVj3 (pc := 83) C dX9_goesBy_83 v_X9_485 (c_X9_wantOfW1 (t := t) (i := i) hX (by omega) (by omega) (rW_sm h19_3 (by decide) hR) (kR_sm h19_3 (by decide) hK) hW hT (by omega) (by omega) (by rw [h19_3.1 1074 (by decide)]; exact hway) (by omega)) (by decide) (by decide) ⟨Nat.zero_le _, Nat.zero_le _⟩ (Nat.le_of_ble_eq_true rfl) (fun x83 G83 l83 u83 hp83 => ?_)
                        obtain ⟨hz83, hq83⟩ := hp83
                        have hj83 := hq83.2
                        have hur := wUrge_in (A := A) (W := W) (p := x5) (s := x6) (t := t) (i := i) hT (by omega) (by omega)
                        refine zs_lstore (pc := 86) C dX9_goesBy_86 (by decide) ?_
                        dsimp only [zset, zclr, znone]
                        refine zs_lload (pc := 88) C dX9_goesBy_88 rfl ?_
                        refine zs_lload_n (pc := 90) C dX9_goesBy_90 rfl ?_
                        refine zs_lcmp (pc := 91) C dX9_goesBy_91 (fun z91 hz91 => ?_)
                        refine zs_if_gt (tgt := 98) (pc := 92) C dX9_goesBy_92 (by decide) (fun h92 => ?_) (fun h92 => ?_)
                        · skip
                          have hst : 4 * x5 + x6 = (wBest A W t i (x5 * 4 + (x6 + 1)).toNat).1 ∧ x83 = (wBest A W t i (x5 * 4 + (x6 + 1)).toNat).2 := by
                            have q := hbn.2 (by rw [if_pos (by omega), ← hq83.1]; omega)
                            rw [if_pos (by omega), ← hq83.1] at q
                            exact q
                          refine zs_iconst (pc := 98) C dX9_goesBy_98 (by decide) ?_
                          refine zs_iload (pc := 99) C dX9_goesBy_99 rfl ?_
                          first | refine zs_imul (pc := 101) C dX9_goesBy_101 (by omega) ?_ | refine zs_imulF (pc := 101) C dX9_goesBy_101 (fun z101 hz1011 hz1012 => ?_)
                          refine zs_iload (pc := 102) C dX9_goesBy_102 rfl ?_
                          first | refine zs_iadd (pc := 104) C dX9_goesBy_104 (by omega) ?_ | refine zs_iaddF (pc := 104) C dX9_goesBy_104 (fun z104 hz1041 hz1042 => ?_)
                          refine zs_istore_n (pc := 105) C dX9_goesBy_105 (by decide) ?_
                          dsimp only [zset, zclr, znone]
                          refine zs_lload (pc := 106) C dX9_goesBy_106 rfl ?_
                          refine zs_lstore_n (pc := 108) C dX9_goesBy_108 (by decide) ?_
                          dsimp only [zset, zclr, znone]
                          exact zs_wk (J109 _ _ _ hst.1 hst.2 (by repeat (first | exact zsm_rf | assumption | refine zsm_C (by decide) ?_ | refine zsm_I (by decide) ?_ | refine zsm_J ?_ | refine zsm_c (by assumption) (by decide) ?_)) (by repeat (first | exact zsj_rf | assumption | refine zsj_I ?_ | refine zsj_J (by decide) ?_ | refine zsj_e (by assumption) ?_ | refine zsj_c (by assumption) (by decide) ?_))) (zwk_s rfl (zwk_s rfl (zwk_s rfl (zwk_s rfl (zwk_n (zwk_s rfl (zwk_s rfl (zwk_n (zwk_n zwk_0)))))))))
                        · skip
                          have hst := hbn.1 (by rw [if_pos (by omega), ← hq83.1]; omega)
                          refine zs_goto (tgt := 109) (pc := 95) C dX9_goesBy_95 (by decide) ?_
                          exact zs_wk (J109 _ _ _ hst.1 hst.2 (by repeat (first | exact zsm_rf | assumption | refine zsm_C (by decide) ?_ | refine zsm_I (by decide) ?_ | refine zsm_J ?_ | refine zsm_c (by assumption) (by decide) ?_)) (by repeat (first | exact zsj_rf | assumption | refine zsj_I ?_ | refine zsj_J (by decide) ?_ | refine zsj_e (by assumption) ?_ | refine zsj_c (by assumption) (by decide) ?_))) (zwk_s rfl (zwk_s rfl (zwk_s rfl (zwk_s rfl (zwk_n (zwk_s rfl (zwk_s rfl (zwk_n (zwk_n zwk_0)))))))))
                      · skip
                        have hst := hbn.1 (by rw [wUrge_0 (Or.inr ⟨by omega, by omega⟩)]; split <;> omega)
                        refine zs_goto (tgt := 109) (pc := 74) C dX9_goesBy_74 (by decide) ?_
                        exact zs_wk (J109 _ _ _ hst.1 hst.2 (by repeat (first | exact zsm_rf | assumption | refine zsm_C (by decide) ?_ | refine zsm_I (by decide) ?_ | refine zsm_J ?_ | refine zsm_c (by assumption) (by decide) ?_)) (by repeat (first | exact zsj_rf | assumption | refine zsj_I ?_ | refine zsj_J (by decide) ?_ | refine zsj_e (by assumption) ?_ | refine zsj_c (by assumption) (by decide) ?_))) (zwk_s rfl (zwk_s rfl (zwk_s rfl (zwk_s rfl (zwk_n (zwk_s rfl (zwk_s rfl (zwk_n (zwk_n zwk_0)))))))))
        exact zs_wk (L19 _ _ _ _ _ (by omega) (by rw [show x5 * 4 + 0 = x5 * 4 by omega]; exact h7_1) (by rw [show x5 * 4 + 0 = x5 * 4 by omega]; exact h7_2) h7_3 h7_4 (Nat.lt_succ_self _)) (zwk_s rfl (zwk_s rfl (zwk_s rfl (zwk_s rfl (zwk_n (zwk_s rfl (zwk_s rfl (zwk_n (zwk_n zwk_0)))))))))
  exact zs_wk (L7 _ _ _ _ _ (by omega) rfl rfl zsm_rf zsj_rf (Nat.lt_succ_self _)) (zwk_s rfl (zwk_s rfl (zwk_s rfl (zwk_s rfl (zwk_n (zwk_s rfl (zwk_n (zwk_n (zwk_n zwk_0)))))))))
