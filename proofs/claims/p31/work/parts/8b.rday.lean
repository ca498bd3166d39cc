theorem dB_put {f g : Nat → Int} {v d : Int} (h0 : 0 ≤ v) (hB : ∀ u : Nat, (u : Int) < v → g (127 * u + 123) = d) (h1 : f (127 * v + 123).toNat = d) (h2 : ∀ j : Nat, ((j : Int) < 127 * v ∨ 127 * v + 127 ≤ (j : Int)) → f j = g j) : ∀ u : Nat, (u : Int) < v + 1 → f (127 * u + 123) = d := by
  intro u hu
  by_cases q : (u : Int) = v
  · rw [← h1]
    congr 1
    omega
  · rw [h2 _ (Or.inl (by omega))]
    exact hB u (by omega)
theorem dB_sh {f g : Nat → Int} {x n v d : Int} (h : ∀ j : Nat, (j : Int) < x → f j = g (j + 127)) (hx : 2413 ≤ x) (hB : ∀ u : Nat, (u : Int) < n → g (127 * u + 123) = d) (hn : n = 20) (hv : v = 19) : ∀ u : Nat, (u : Int) < v → f (127 * u + 123) = d := by
  intro u hu
  rw [h _ (by omega), ← hB (u + 1) (by omega)]
  congr 1

set_option maxHeartbeats 4000000 in
set_option maxRecDepth 100000 in
theorem c_X9_goesByD {l : Launch} {Γ : zΓ} {G : zH} {w : Nat} {b0 : Int} (hX : zXs Γ) (hM : MI Γ w G)(hb : b0 = 0 ∨ b0 = 1)(hd : 0 ≤ G.1 2090 (Γ.2.1 w 60) b0.toNat ∧ G.1 2090 (Γ.2.1 w 60) b0.toNat ≤ 1000000) : zMet l Γ yX9_goesBy cX9_goesBy 9 none 6 [zr 10 w, zi b0] G (zpv (fun G' => zsm [1050, 2091, 2092, 2093, 2094, 2095, 2096, 2097, 2098, 2099, 2100, 2088, 2087, 2082, 2084, 2083, 2089, 2086, 1073, 2090] G G' ∧ (G'.1 2090 (Γ.2.1 w 60) b0.toNat = G.1 2090 (Γ.2.1 w 60) b0.toNat + 1))) := by
  refine zMet_of RX9 hX (by decide) rfl (Nat.le_of_ble_eq_true rfl) ?_
  intro p e s m args below meth c C hr hlk
  show Z p l e (zrm 6) s m args below meth c Γ 9 0 0 (MQ below (zQc Γ (zpv (fun G' => zsm [1050, 2091, 2092, 2093, 2094, 2095, 2096, 2097, 2098, 2099, 2100, 2088, 2087, 2082, 2084, 2083, 2089, 2086, 1073, 2090] G G' ∧ (G'.1 2090 (Γ.2.1 w 60) b0.toNat = G.1 2090 (Γ.2.1 w 60) b0.toNat + 1)))) args s 0 0 (zA Γ)) 0 [some (zr 10 w), some (zi b0), none, none, none, none, none, none, none] [] G
  refine zs_loc 1 rfl (fun ha1 hb1 => ?_)
  refine zs_iconst (pc := 0) C dX9_goesBy_0 (by decide) ?_
  refine zs_istore_n (pc := 1) C dX9_goesBy_1 (by decide) ?_
  dsimp only [zset, zclr, znone]
  refine zs_lconst (n := 0) (pc := 2) C dX9_goesBy_2 rfl (by decide) ?_
  refine zs_lstore_n (pc := 3) C dX9_goesBy_3 (by decide) ?_
  dsimp only [zset, zclr, znone]
  refine zs_iconst (pc := 4) C dX9_goesBy_4 (by decide) ?_
  refine zs_istore (pc := 5) C dX9_goesBy_5 (by decide) ?_
  dsimp only [zset, zclr, znone]
  have L7 : ∀ (nn : Nat) (x2 x3 x5 : Int) (G1 : zH), (0 ≤ x5 ∧ x5 ≤ 5) → (-1 ≤ x2 ∧ x2 ≤ 19) → (zsm [1050, 2091, 2092, 2093, 2094, 2095, 2096, 2097, 2098, 2099, 2100, 2088, 2087, 2082, 2084, 2083, 2089, 2086, 1073] G G1) → (5 - x5).toNat < nn → Z p l e (zrm 6) s m args below meth c Γ 9 0 0 (MQ below (zQc Γ (zpv (fun G' => zsm [1050, 2091, 2092, 2093, 2094, 2095, 2096, 2097, 2098, 2099, 2100, 2088, 2087, 2082, 2084, 2083, 2089, 2086, 1073, 2090] G G' ∧ (G'.1 2090 (Γ.2.1 w 60) b0.toNat = G.1 2090 (Γ.2.1 w 60) b0.toNat + 1)))) args s 0 0 (zA Γ)) 7 [some (zr 10 w), some (zi b0), some (zi x2), some (zj x3), none, some (zi x5), none, none, none] [] G1 := by
    intro nn
    induction nn with
    | zero => intro x2 x3 x5 G1 h7_0 h7_1 h7_2 hm; exact absurd hm (Nat.not_lt_zero _)
    | succ nn ih7 =>
      intro x2 x3 x5 G1 h7_0 h7_1 h7_2 hm7
      refine zs_iload (pc := 7) C dX9_goesBy_7 rfl ?_
      refine zs_aload_n (pc := 9) C dX9_goesBy_9 rfl ?_
      refine zs_geti (r := 1013) (pc := 10) C dX9_goesBy_10 w_X9_261 f_10_13 rfl (r_1013 0) (fun v10 e10 l10 u10 => ?_)
      refine zs_icmp_ge (tgt := 121) (pc := 13) C dX9_goesBy_13 (by decide) (fun h13 => ?_) (fun h13 => ?_)
      · skip
        have J145 : ∀ (G5 : zH), (zsm [1050, 2091, 2092, 2093, 2094, 2095, 2096, 2097, 2098, 2099, 2100, 2088, 2087, 2082, 2084, 2083, 2089, 2086, 1073] G G5) → Z p l e (zrm 6) s m args below meth c Γ 9 0 0 (MQ below (zQc Γ (zpv (fun G' => zsm [1050, 2091, 2092, 2093, 2094, 2095, 2096, 2097, 2098, 2099, 2100, 2088, 2087, 2082, 2084, 2083, 2089, 2086, 1073, 2090] G G' ∧ (G'.1 2090 (Γ.2.1 w 60) b0.toNat = G.1 2090 (Γ.2.1 w 60) b0.toNat + 1)))) args s 0 0 (zA Γ)) 145 [some (zr 10 w), some (zi b0), none, none, none, none, none, none, none] [] G5 := by
          intro G5 h145_0
          refine zs_iconst (pc := 145) C dX9_goesBy_145 (by decide) ?_
          refine zs_istore (pc := 146) C dX9_goesBy_146 (by decide) ?_
          dsimp only [zset, zclr, znone]
          have L148 : ∀ (nn : Nat) (x5 : Int) (G6 : zH), (0 ≤ x5 ∧ x5 ≤ 5) → (zsm [1050, 2091, 2092, 2093, 2094, 2095, 2096, 2097, 2098, 2099, 2100, 2088, 2087, 2082, 2084, 2083, 2089, 2086, 1073] G G6) → (5 - x5).toNat < nn → Z p l e (zrm 6) s m args below meth c Γ 9 0 0 (MQ below (zQc Γ (zpv (fun G' => zsm [1050, 2091, 2092, 2093, 2094, 2095, 2096, 2097, 2098, 2099, 2100, 2088, 2087, 2082, 2084, 2083, 2089, 2086, 1073, 2090] G G' ∧ (G'.1 2090 (Γ.2.1 w 60) b0.toNat = G.1 2090 (Γ.2.1 w 60) b0.toNat + 1)))) args s 0 0 (zA Γ)) 148 [some (zr 10 w), some (zi b0), none, none, none, some (zi x5), none, none, none] [] G6 := by
            intro nn
            induction nn with
            | zero => intro x5 G6 h148_0 h148_1 hm; exact absurd hm (Nat.not_lt_zero _)
            | succ nn ih148 =>
              intro x5 G6 h148_0 h148_1 hm148
              refine zs_iload (pc := 148) C dX9_goesBy_148 rfl ?_
              refine zs_aload_n (pc := 150) C dX9_goesBy_150 rfl ?_
              refine zs_geti (r := 1014) (pc := 151) C dX9_goesBy_151 w_X9_264 f_10_14 rfl (r_1014 0) (fun v151 e151 l151 u151 => ?_)
              refine zs_icmp_ge (tgt := 196) (pc := 154) C dX9_goesBy_154 (by decide) (fun h154 => ?_) (fun h154 => ?_)
              · skip
                have t90 := zsm_at h148_1 2090 (Γ.2.1 w 60) b0.toNat (by decide)
                refine zs_aload_n (pc := 196) C dX9_goesBy_196 rfl ?_
                refine zs_getf (pc := 197) C dX9_goesBy_197 w_X9_115 f_10_60 (by decide) ?_
                refine zs_iload_n (pc := 200) C dX9_goesBy_200 rfl ?_
                refine zs_dup2 (pc := 201) C dX9_goesBy_201 ?_
                refine zs_iald (r := 2090) (pc := 202) C dX9_goesBy_202 a_90 (by decide) (by omega) rfl (r_2090 _) (fun v202 e202 l202 u202 => ?_)
                refine zs_iconst (pc := 203) C dX9_goesBy_203 (by decide) ?_
                first | refine zs_iadd (pc := 204) C dX9_goesBy_204 (by omega) ?_ | refine zs_iaddF (pc := 204) C dX9_goesBy_204 (fun z204 hz2041 hz2042 => ?_)
                refine zs_iast (r := 2090) (pc := 205) C dX9_goesBy_205 a_90 (by decide) (by omega) rfl (r_2090 _) (by omega) ?_
                exact zs_vret (pc := 206) C hr hlk dX9_goesBy_206 ⟨by repeat (first | exact zsm_rf | assumption | refine zsm_C (by decide) ?_ | refine zsm_I (by decide) ?_ | refine zsm_J ?_ | refine zsm_c (by assumption) (by decide) ?_), (by rw [zuI_1, if_pos ⟨rfl, rfl, rfl⟩]; omega)⟩
              · skip
                refine zs_aload_n (pc := 157) C dX9_goesBy_157 rfl ?_
                refine zs_getf (pc := 158) C dX9_goesBy_158 w_X9_51 f_10_32 (by decide) ?_
                refine zs_iload (pc := 161) C dX9_goesBy_161 rfl ?_
                refine zs_iald (r := 2069) (pc := 163) C dX9_goesBy_163 a_69 (by decide) (by omega) rfl (r_2069 _) (fun v163 e163 l163 u163 => ?_)
                refine zs_aload_n (pc := 164) C dX9_goesBy_164 rfl ?_
                refine zs_getf (pc := 165) C dX9_goesBy_165 w_X9_115 f_10_60 (by decide) ?_
                refine zs_iload_n (pc := 168) C dX9_goesBy_168 rfl ?_
                refine zs_iald (r := 2090) (pc := 169) C dX9_goesBy_169 a_90 (by decide) (by omega) rfl (r_2090 _) (fun v169 e169 l169 u169 => ?_)
                refine zs_icmp_ne (tgt := 190) (pc := 170) C dX9_goesBy_170 (by decide) (fun h170 => ?_) (fun h170 => ?_)
                · skip
                  first | refine zs_iinc (pc := 190) C dX9_goesBy_190 rfl (by decide) (by omega) ?_ | refine zs_iincF (pc := 190) C dX9_goesBy_190 rfl (by decide) (fun z190 hz1901 hz1902 => ?_)
                  dsimp only [zset, zclr, znone]
                  refine zs_goto (tgt := 148) (pc := 193) C dX9_goesBy_193 (by decide) ?_
                  exact zs_wk (ih148 _ _ (by first | omega | (simp only [zuI_1, zuI_2, zuJ_1, zuJ_2, zuJ_3, zuP_1, zuP_2, zuP_3, zuC_1, zuC_2, reduceIte, Nat.reduceEqDiff, false_and, and_false, true_and, and_true, and_self, or_true, true_or, or_false, false_or]; omega)) (by repeat (first | exact zsm_rf | assumption | refine zsm_C (by decide) ?_ | refine zsm_I (by decide) ?_ | refine zsm_J ?_ | refine zsm_c (by assumption) (by decide) ?_)) (by first | omega | (simp only [zuI_1, zuI_2, zuJ_1, zuJ_2, zuJ_3, zuP_1, zuP_2, zuP_3, zuC_1, zuC_2, reduceIte, Nat.reduceEqDiff, false_and, and_false, true_and, and_true, and_self, or_true, true_or, or_false, false_or]; omega))) (zwk_s rfl (zwk_s rfl (zwk_n (zwk_n (zwk_n (zwk_s rfl (zwk_n (zwk_n (zwk_n zwk_0)))))))))
                · skip
                  refine zs_aload_n (pc := 173) C dX9_goesBy_173 rfl ?_
                  refine zs_iload_n (pc := 174) C dX9_goesBy_174 rfl ?_
                  refine zs_iload (pc := 175) C dX9_goesBy_175 rfl ?_
                  refine zVip2 (pc := 177) C dX9_goesBy_177 v_X9_474 (c_X9_canBake hX (by omega) (by omega)) (by decide) (by decide) ⟨Nat.zero_le _, Nat.zero_le _⟩ (Nat.le_of_ble_eq_true rfl) (fun x177 l177 u177 hp177 => ?_)
                  have hq177 := hp177
                  refine zs_if_eq (tgt := 190) (pc := 180) C dX9_goesBy_180 (by decide) (fun h180 => ?_) (fun h180 => ?_)
                  · skip
                    first | refine zs_iinc (pc := 190) C dX9_goesBy_190 rfl (by decide) (by omega) ?_ | refine zs_iincF (pc := 190) C dX9_goesBy_190 rfl (by decide) (fun z190 hz1901 hz1902 => ?_)
                    dsimp only [zset, zclr, znone]
                    refine zs_goto (tgt := 148) (pc := 193) C dX9_goesBy_193 (by decide) ?_
                    exact zs_wk (ih148 _ _ (by first | omega | (simp only [zuI_1, zuI_2, zuJ_1, zuJ_2, zuJ_3, zuP_1, zuP_2, zuP_3, zuC_1, zuC_2, reduceIte, Nat.reduceEqDiff, false_and, and_false, true_and, and_true, and_self, or_true, true_or, or_false, false_or]; omega)) (by repeat (first | exact zsm_rf | assumption | refine zsm_C (by decide) ?_ | refine zsm_I (by decide) ?_ | refine zsm_J ?_ | refine zsm_c (by assumption) (by decide) ?_)) (by first | omega | (simp only [zuI_1, zuI_2, zuJ_1, zuJ_2, zuJ_3, zuP_1, zuP_2, zuP_3, zuC_1, zuC_2, reduceIte, Nat.reduceEqDiff, false_and, and_false, true_and, and_true, and_self, or_true, true_or, or_false, false_or]; omega))) (zwk_s rfl (zwk_s rfl (zwk_n (zwk_n (zwk_n (zwk_s rfl (zwk_n (zwk_n (zwk_n zwk_0)))))))))
                  · skip
                    refine zs_aload_n (pc := 183) C dX9_goesBy_183 rfl ?_
                    refine zs_iload_n (pc := 184) C dX9_goesBy_184 rfl ?_
                    refine zs_iload (pc := 185) C dX9_goesBy_185 rfl ?_
                    refine zVv2 (pc := 187) C dX9_goesBy_187 v_X9_477 (c_X9_bakes hX (by omega) (by omega) (by omega)) (by decide) (by decide) ⟨Nat.zero_le _, Nat.zero_le _⟩ (Nat.le_of_ble_eq_true rfl) (fun G187 hp187 => ?_)
                    obtain ⟨hz187, hq187⟩ := hp187
                    first | refine zs_iinc (pc := 190) C dX9_goesBy_190 rfl (by decide) (by omega) ?_ | refine zs_iincF (pc := 190) C dX9_goesBy_190 rfl (by decide) (fun z190 hz1901 hz1902 => ?_)
                    dsimp only [zset, zclr, znone]
                    refine zs_goto (tgt := 148) (pc := 193) C dX9_goesBy_193 (by decide) ?_
                    exact zs_wk (ih148 _ _ (by first | omega | (simp only [zuI_1, zuI_2, zuJ_1, zuJ_2, zuJ_3, zuP_1, zuP_2, zuP_3, zuC_1, zuC_2, reduceIte, Nat.reduceEqDiff, false_and, and_false, true_and, and_true, and_self, or_true, true_or, or_false, false_or]; omega)) (by repeat (first | exact zsm_rf | assumption | refine zsm_C (by decide) ?_ | refine zsm_I (by decide) ?_ | refine zsm_J ?_ | refine zsm_c (by assumption) (by decide) ?_)) (by first | omega | (simp only [zuI_1, zuI_2, zuJ_1, zuJ_2, zuJ_3, zuP_1, zuP_2, zuP_3, zuC_1, zuC_2, reduceIte, Nat.reduceEqDiff, false_and, and_false, true_and, and_true, and_self, or_true, true_or, or_false, false_or]; omega))) (zwk_s rfl (zwk_s rfl (zwk_n (zwk_n (zwk_n (zwk_s rfl (zwk_n (zwk_n (zwk_n zwk_0)))))))))
          exact zs_wk (L148 _ _ _ (by first | omega | (simp only [zuI_1, zuI_2, zuJ_1, zuJ_2, zuJ_3, zuP_1, zuP_2, zuP_3, zuC_1, zuC_2, reduceIte, Nat.reduceEqDiff, false_and, and_false, true_and, and_true, and_self, or_true, true_or, or_false, false_or]; omega)) (by repeat (first | exact zsm_rf | assumption | refine zsm_C (by decide) ?_ | refine zsm_I (by decide) ?_ | refine zsm_J ?_ | refine zsm_c (by assumption) (by decide) ?_)) (Nat.lt_succ_self _)) (zwk_s rfl (zwk_s rfl (zwk_n (zwk_n (zwk_n (zwk_s rfl (zwk_n (zwk_n (zwk_n zwk_0)))))))))
        refine zs_iload_n (pc := 121) C dX9_goesBy_121 rfl ?_
        refine zs_if_lt (tgt := 145) (pc := 122) C dX9_goesBy_122 (by decide) (fun h122 => ?_) (fun h122 => ?_)
        · skip
          exact zs_wk (J145 _ (by repeat (first | exact zsm_rf | assumption | refine zsm_C (by decide) ?_ | refine zsm_I (by decide) ?_ | refine zsm_J ?_ | refine zsm_c (by assumption) (by decide) ?_))) (zwk_s rfl (zwk_s rfl (zwk_n (zwk_n (zwk_n (zwk_n (zwk_n (zwk_n (zwk_n zwk_0)))))))))
        · skip
          refine zs_aload_n (pc := 125) C dX9_goesBy_125 rfl ?_
          refine zs_iload_n (pc := 126) C dX9_goesBy_126 rfl ?_
          refine zVip1 (pc := 127) C dX9_goesBy_127 v_X9_439 (c_X9_canGrind hX (by omega)) (by decide) (by decide) ⟨Nat.zero_le _, Nat.zero_le _⟩ (Nat.le_of_ble_eq_true rfl) (fun x127 l127 u127 hp127 => ?_)
          have hq127 := hp127
          refine zs_if_eq (tgt := 145) (pc := 130) C dX9_goesBy_130 (by decide) (fun h130 => ?_) (fun h130 => ?_)
          · skip
            exact zs_wk (J145 _ (by repeat (first | exact zsm_rf | assumption | refine zsm_C (by decide) ?_ | refine zsm_I (by decide) ?_ | refine zsm_J ?_ | refine zsm_c (by assumption) (by decide) ?_))) (zwk_s rfl (zwk_s rfl (zwk_n (zwk_n (zwk_n (zwk_n (zwk_n (zwk_n (zwk_n zwk_0)))))))))
          · skip
            refine zs_aload_n (pc := 133) C dX9_goesBy_133 rfl ?_
            refine zs_iload_n (pc := 134) C dX9_goesBy_134 rfl ?_
            refine zs_iload_n (pc := 135) C dX9_goesBy_135 rfl ?_
            refine zs_iconst (pc := 136) C dX9_goesBy_136 (by decide) ?_
            first | refine zs_idiv (pc := 137) C dX9_goesBy_137 (by omega) (by omega) (fun hz1371 hz1372 => ?_) | refine zs_idivF (pc := 137) C dX9_goesBy_137 (by omega) (fun z137 hz1371 hz1372 => ?_)
            refine zs_iload_n (pc := 138) C dX9_goesBy_138 rfl ?_
            refine zs_iconst (pc := 139) C dX9_goesBy_139 (by decide) ?_
            first | refine zs_irem (pc := 140) C dX9_goesBy_140 (by omega) (by omega) (fun hz1401 hz1402 => ?_) | refine zs_iremF (pc := 140) C dX9_goesBy_140 (by omega) (fun z140 hz1401 hz1402 => ?_)
            refine zVi3 (pc := 141) C dX9_goesBy_141 v_X9_445 (c_X9_grinds hX (by repeat (first | assumption | refine MI_I (by decide) ?_ | refine MI_J ?_ | refine MI_sm (by assumption) (by decide) ?_ | refine MI_sn (by assumption) (by decide) ?_)) (by omega) (by omega) (by omega) (by omega) (by omega)) (by decide) (by decide) ⟨Nat.zero_le _, Nat.zero_le _⟩ (Nat.le_of_ble_eq_true rfl) (fun x141 G141 l141 u141 hp141 => ?_)
            obtain ⟨hz141, hq141⟩ := hp141
            refine zs_popi (pc := 144) C dX9_goesBy_144 ?_
            exact zs_wk (J145 _ (by repeat (first | exact zsm_rf | assumption | refine zsm_C (by decide) ?_ | refine zsm_I (by decide) ?_ | refine zsm_J ?_ | refine zsm_c (by assumption) (by decide) ?_))) (zwk_s rfl (zwk_s rfl (zwk_n (zwk_n (zwk_n (zwk_n (zwk_n (zwk_n (zwk_n zwk_0)))))))))
      · skip
        refine zs_iconst (pc := 16) C dX9_goesBy_16 (by decide) ?_
        refine zs_istore (pc := 17) C dX9_goesBy_17 (by decide) ?_
        dsimp only [zset, zclr, znone]
        have L19 : ∀ (nn : Nat) (x2 x3 x6 : Int) (G2 : zH), (0 ≤ x6 ∧ x6 ≤ 4) → (-1 ≤ x2 ∧ x2 ≤ 19) → (zsm [1050, 2091, 2092, 2093, 2094, 2095, 2096, 2097, 2098, 2099, 2100, 2088, 2087, 2082, 2084, 2083, 2089, 2086, 1073] G G2) → (4 - x6).toNat < nn → Z p l e (zrm 6) s m args below meth c Γ 9 0 0 (MQ below (zQc Γ (zpv (fun G' => zsm [1050, 2091, 2092, 2093, 2094, 2095, 2096, 2097, 2098, 2099, 2100, 2088, 2087, 2082, 2084, 2083, 2089, 2086, 1073, 2090] G G' ∧ (G'.1 2090 (Γ.2.1 w 60) b0.toNat = G.1 2090 (Γ.2.1 w 60) b0.toNat + 1)))) args s 0 0 (zA Γ)) 19 [some (zr 10 w), some (zi b0), some (zi x2), some (zj x3), none, some (zi x5), some (zi x6), none, none] [] G2 := by
          intro nn
          induction nn with
          | zero => intro x2 x3 x6 G2 h19_0 h19_1 h19_2 hm; exact absurd hm (Nat.not_lt_zero _)
          | succ nn ih19 =>
            intro x2 x3 x6 G2 h19_0 h19_1 h19_2 hm19
            refine zs_iload (pc := 19) C dX9_goesBy_19 rfl ?_
            refine zs_aload_n (pc := 21) C dX9_goesBy_21 rfl ?_
            refine zs_geti (r := 1012) (pc := 22) C dX9_goesBy_22 w_X9_258 f_10_12 rfl (r_1012 0) (fun v22 e22 l22 u22 => ?_)
            refine zs_icmp_ge (tgt := 115) (pc := 25) C dX9_goesBy_25 (by decide) (fun h25 => ?_) (fun h25 => ?_)
            · skip
              first | refine zs_iinc (pc := 115) C dX9_goesBy_115 rfl (by decide) (by omega) ?_ | refine zs_iincF (pc := 115) C dX9_goesBy_115 rfl (by decide) (fun z115 hz1151 hz1152 => ?_)
              dsimp only [zset, zclr, znone]
              refine zs_goto (tgt := 7) (pc := 118) C dX9_goesBy_118 (by decide) ?_
              exact zs_wk (ih7 _ _ _ _ (by first | omega | (simp only [zuI_1, zuI_2, zuJ_1, zuJ_2, zuJ_3, zuP_1, zuP_2, zuP_3, zuC_1, zuC_2, reduceIte, Nat.reduceEqDiff, false_and, and_false, true_and, and_true, and_self, or_true, true_or, or_false, false_or]; omega)) (by first | omega | (simp only [zuI_1, zuI_2, zuJ_1, zuJ_2, zuJ_3, zuP_1, zuP_2, zuP_3, zuC_1, zuC_2, reduceIte, Nat.reduceEqDiff, false_and, and_false, true_and, and_true, and_self, or_true, true_or, or_false, false_or]; omega)) (by repeat (first | exact zsm_rf | assumption | refine zsm_C (by decide) ?_ | refine zsm_I (by decide) ?_ | refine zsm_J ?_ | refine zsm_c (by assumption) (by decide) ?_)) (by first | omega | (simp only [zuI_1, zuI_2, zuJ_1, zuJ_2, zuJ_3, zuP_1, zuP_2, zuP_3, zuC_1, zuC_2, reduceIte, Nat.reduceEqDiff, false_and, and_false, true_and, and_true, and_self, or_true, true_or, or_false, false_or]; omega))) (zwk_s rfl (zwk_s rfl (zwk_s rfl (zwk_s rfl (zwk_n (zwk_s rfl (zwk_n (zwk_n (zwk_n zwk_0)))))))))
            · skip
              refine zs_aload_n (pc := 28) C dX9_goesBy_28 rfl ?_
              refine zs_iload_n (pc := 29) C dX9_goesBy_29 rfl ?_
              refine zs_iload (pc := 30) C dX9_goesBy_30 rfl ?_
              refine zs_iload (pc := 32) C dX9_goesBy_32 rfl ?_
              refine zVip3 (pc := 34) C dX9_goesBy_34 v_X9_394 (c_X9_leftOf hX (by omega) (by omega) (by omega)) (by decide) (by decide) ⟨Nat.zero_le _, Nat.zero_le _⟩ (Nat.le_of_ble_eq_true rfl) (fun x34 l34 u34 hp34 => ?_)
              have hq34 := hp34
              have J109 : ∀ (x2 x3 : Int) (G3 : zH), (-1 ≤ x2 ∧ x2 ≤ 19) → (zsm [1050, 2091, 2092, 2093, 2094, 2095, 2096, 2097, 2098, 2099, 2100, 2088, 2087, 2082, 2084, 2083, 2089, 2086, 1073] G G3) → Z p l e (zrm 6) s m args below meth c Γ 9 0 0 (MQ below (zQc Γ (zpv (fun G' => zsm [1050, 2091, 2092, 2093, 2094, 2095, 2096, 2097, 2098, 2099, 2100, 2088, 2087, 2082, 2084, 2083, 2089, 2086, 1073, 2090] G G' ∧ (G'.1 2090 (Γ.2.1 w 60) b0.toNat = G.1 2090 (Γ.2.1 w 60) b0.toNat + 1)))) args s 0 0 (zA Γ)) 109 [some (zr 10 w), some (zi b0), some (zi x2), some (zj x3), none, some (zi x5), some (zi x6), none, none] [] G3 := by
                intro x2 x3 G3 h109_0 h109_1
                first | refine zs_iinc (pc := 109) C dX9_goesBy_109 rfl (by decide) (by omega) ?_ | refine zs_iincF (pc := 109) C dX9_goesBy_109 rfl (by decide) (fun z109 hz1091 hz1092 => ?_)
                dsimp only [zset, zclr, znone]
                refine zs_goto (tgt := 19) (pc := 112) C dX9_goesBy_112 (by decide) ?_
                exact zs_wk (ih19 _ _ _ _ (by first | omega | (simp only [zuI_1, zuI_2, zuJ_1, zuJ_2, zuJ_3, zuP_1, zuP_2, zuP_3, zuC_1, zuC_2, reduceIte, Nat.reduceEqDiff, false_and, and_false, true_and, and_true, and_self, or_true, true_or, or_false, false_or]; omega)) (by first | omega | (simp only [zuI_1, zuI_2, zuJ_1, zuJ_2, zuJ_3, zuP_1, zuP_2, zuP_3, zuC_1, zuC_2, reduceIte, Nat.reduceEqDiff, false_and, and_false, true_and, and_true, and_self, or_true, true_or, or_false, false_or]; omega)) (by repeat (first | exact zsm_rf | assumption | refine zsm_C (by decide) ?_ | refine zsm_I (by decide) ?_ | refine zsm_J ?_ | refine zsm_c (by assumption) (by decide) ?_)) (by first | omega | (simp only [zuI_1, zuI_2, zuJ_1, zuJ_2, zuJ_3, zuP_1, zuP_2, zuP_3, zuC_1, zuC_2, reduceIte, Nat.reduceEqDiff, false_and, and_false, true_and, and_true, and_self, or_true, true_or, or_false, false_or]; omega))) (zwk_s rfl (zwk_s rfl (zwk_s rfl (zwk_s rfl (zwk_n (zwk_s rfl (zwk_s rfl (zwk_n (zwk_n zwk_0)))))))))
              refine zs_if_eq (tgt := 109) (pc := 37) C dX9_goesBy_37 (by decide) (fun h37 => ?_) (fun h37 => ?_)
              · skip
                exact zs_wk (J109 _ _ _ (by first | omega | (simp only [zuI_1, zuI_2, zuJ_1, zuJ_2, zuJ_3, zuP_1, zuP_2, zuP_3, zuC_1, zuC_2, reduceIte, Nat.reduceEqDiff, false_and, and_false, true_and, and_true, and_self, or_true, true_or, or_false, false_or]; omega)) (by repeat (first | exact zsm_rf | assumption | refine zsm_C (by decide) ?_ | refine zsm_I (by decide) ?_ | refine zsm_J ?_ | refine zsm_c (by assumption) (by decide) ?_))) (zwk_s rfl (zwk_s rfl (zwk_s rfl (zwk_s rfl (zwk_n (zwk_s rfl (zwk_s rfl (zwk_n (zwk_n zwk_0)))))))))
              · skip
                refine zs_aload_n (pc := 40) C dX9_goesBy_40 rfl ?_
                refine zs_geti (r := 1074) (pc := 41) C dX9_goesBy_41 w_X9_148 f_10_74 rfl (r_1074 0) (fun v41 e41 l41 u41 => ?_)
                refine zs_iconst (pc := 44) C dX9_goesBy_44 (by decide) ?_
                refine zs_icmp_ne (tgt := 57) (pc := 45) C dX9_goesBy_45 (by decide) (fun h45 => ?_) (fun h45 => ?_)
                · skip
                  refine zs_aload_n (pc := 57) C dX9_goesBy_57 rfl ?_
                  refine zs_geti (r := 1074) (pc := 58) C dX9_goesBy_58 w_X9_148 f_10_74 rfl (r_1074 0) (fun v58 e58 l58 u58 => ?_)
                  refine zs_iconst (pc := 61) C dX9_goesBy_61 (by decide) ?_
                  refine zs_icmp_ne (tgt := 77) (pc := 62) C dX9_goesBy_62 (by decide) (fun h62 => ?_) (fun h62 => ?_)
                  · skip
                    refine zs_aload_n (pc := 77) C dX9_goesBy_77 rfl ?_
                    refine zs_iload_n (pc := 78) C dX9_goesBy_78 rfl ?_
                    refine zs_iload (pc := 79) C dX9_goesBy_79 rfl ?_
                    refine zs_iload (pc := 81) C dX9_goesBy_81 rfl ?_
                    refine zVj3 (pc := 83) C dX9_goesBy_83 v_X9_485 (c_X9_wantOf hX (by repeat (first | assumption | refine MI_I (by decide) ?_ | refine MI_J ?_ | refine MI_sm (by assumption) (by decide) ?_ | refine MI_sn (by assumption) (by decide) ?_)) (by omega) (by omega) (by omega)) (by decide) (by decide) ⟨Nat.zero_le _, Nat.zero_le _⟩ (Nat.le_of_ble_eq_true rfl) (fun x83 G83 l83 u83 hp83 => ?_)
                    obtain ⟨hz83, hq83⟩ := hp83
                    refine zs_lstore (pc := 86) C dX9_goesBy_86 (by decide) ?_
                    dsimp only [zset, zclr, znone]
                    refine zs_lload (pc := 88) C dX9_goesBy_88 rfl ?_
                    refine zs_lload_n (pc := 90) C dX9_goesBy_90 rfl ?_
                    refine zs_lcmp (pc := 91) C dX9_goesBy_91 (fun z91 hz91 => ?_)
                    refine zs_if_gt (tgt := 98) (pc := 92) C dX9_goesBy_92 (by decide) (fun h92 => ?_) (fun h92 => ?_)
                    · skip
                      refine zs_iconst (pc := 98) C dX9_goesBy_98 (by decide) ?_
                      refine zs_iload (pc := 99) C dX9_goesBy_99 rfl ?_
                      first | refine zs_imul (pc := 101) C dX9_goesBy_101 (by omega) ?_ | refine zs_imulF (pc := 101) C dX9_goesBy_101 (fun z101 hz1011 hz1012 => ?_)
                      refine zs_iload (pc := 102) C dX9_goesBy_102 rfl ?_
                      first | refine zs_iadd (pc := 104) C dX9_goesBy_104 (by omega) ?_ | refine zs_iaddF (pc := 104) C dX9_goesBy_104 (fun z104 hz1041 hz1042 => ?_)
                      refine zs_istore_n (pc := 105) C dX9_goesBy_105 (by decide) ?_
                      dsimp only [zset, zclr, znone]
                      refine zs_lload (pc := 106) C dX9_goesBy_106 rfl ?_
                      refine zs_lstore_n (pc := 108) C dX9_goesBy_108 (by decide) ?_
                      dsimp only [zset, zclr, znone]
                      exact zs_wk (J109 _ _ _ (by first | omega | (simp only [zuI_1, zuI_2, zuJ_1, zuJ_2, zuJ_3, zuP_1, zuP_2, zuP_3, zuC_1, zuC_2, reduceIte, Nat.reduceEqDiff, false_and, and_false, true_and, and_true, and_self, or_true, true_or, or_false, false_or]; omega)) (by repeat (first | exact zsm_rf | assumption | refine zsm_C (by decide) ?_ | refine zsm_I (by decide) ?_ | refine zsm_J ?_ | refine zsm_c (by assumption) (by decide) ?_))) (zwk_s rfl (zwk_s rfl (zwk_s rfl (zwk_s rfl (zwk_n (zwk_s rfl (zwk_s rfl (zwk_n (zwk_n zwk_0)))))))))
                    · skip
                      refine zs_goto (tgt := 109) (pc := 95) C dX9_goesBy_95 (by decide) ?_
                      exact zs_wk (J109 _ _ _ (by first | omega | (simp only [zuI_1, zuI_2, zuJ_1, zuJ_2, zuJ_3, zuP_1, zuP_2, zuP_3, zuC_1, zuC_2, reduceIte, Nat.reduceEqDiff, false_and, and_false, true_and, and_true, and_self, or_true, true_or, or_false, false_or]; omega)) (by repeat (first | exact zsm_rf | assumption | refine zsm_C (by decide) ?_ | refine zsm_I (by decide) ?_ | refine zsm_J ?_ | refine zsm_c (by assumption) (by decide) ?_))) (zwk_s rfl (zwk_s rfl (zwk_s rfl (zwk_s rfl (zwk_n (zwk_s rfl (zwk_s rfl (zwk_n (zwk_n zwk_0)))))))))
                  · skip
                    refine zs_aload_n (pc := 65) C dX9_goesBy_65 rfl ?_
                    refine zs_geti (r := 1075) (pc := 66) C dX9_goesBy_66 w_X9_482 f_10_75 rfl (r_1075 0) (fun v66 e66 l66 u66 => ?_)
                    refine zs_iload (pc := 69) C dX9_goesBy_69 rfl ?_
                    refine zs_icmp_ne (tgt := 77) (pc := 71) C dX9_goesBy_71 (by decide) (fun h71 => ?_) (fun h71 => ?_)
                    · skip
                      refine zs_aload_n (pc := 77) C dX9_goesBy_77 rfl ?_
                      refine zs_iload_n (pc := 78) C dX9_goesBy_78 rfl ?_
                      refine zs_iload (pc := 79) C dX9_goesBy_79 rfl ?_
                      refine zs_iload (pc := 81) C dX9_goesBy_81 rfl ?_
                      refine zVj3 (pc := 83) C dX9_goesBy_83 v_X9_485 (c_X9_wantOf hX (by repeat (first | assumption | refine MI_I (by decide) ?_ | refine MI_J ?_ | refine MI_sm (by assumption) (by decide) ?_ | refine MI_sn (by assumption) (by decide) ?_)) (by omega) (by omega) (by omega)) (by decide) (by decide) ⟨Nat.zero_le _, Nat.zero_le _⟩ (Nat.le_of_ble_eq_true rfl) (fun x83 G83 l83 u83 hp83 => ?_)
                      obtain ⟨hz83, hq83⟩ := hp83
                      refine zs_lstore (pc := 86) C dX9_goesBy_86 (by decide) ?_
                      dsimp only [zset, zclr, znone]
                      refine zs_lload (pc := 88) C dX9_goesBy_88 rfl ?_
                      refine zs_lload_n (pc := 90) C dX9_goesBy_90 rfl ?_
                      refine zs_lcmp (pc := 91) C dX9_goesBy_91 (fun z91 hz91 => ?_)
                      refine zs_if_gt (tgt := 98) (pc := 92) C dX9_goesBy_92 (by decide) (fun h92 => ?_) (fun h92 => ?_)
                      · skip
                        refine zs_iconst (pc := 98) C dX9_goesBy_98 (by decide) ?_
                        refine zs_iload (pc := 99) C dX9_goesBy_99 rfl ?_
                        first | refine zs_imul (pc := 101) C dX9_goesBy_101 (by omega) ?_ | refine zs_imulF (pc := 101) C dX9_goesBy_101 (fun z101 hz1011 hz1012 => ?_)
                        refine zs_iload (pc := 102) C dX9_goesBy_102 rfl ?_
                        first | refine zs_iadd (pc := 104) C dX9_goesBy_104 (by omega) ?_ | refine zs_iaddF (pc := 104) C dX9_goesBy_104 (fun z104 hz1041 hz1042 => ?_)
                        refine zs_istore_n (pc := 105) C dX9_goesBy_105 (by decide) ?_
                        dsimp only [zset, zclr, znone]
                        refine zs_lload (pc := 106) C dX9_goesBy_106 rfl ?_
                        refine zs_lstore_n (pc := 108) C dX9_goesBy_108 (by decide) ?_
                        dsimp only [zset, zclr, znone]
                        exact zs_wk (J109 _ _ _ (by first | omega | (simp only [zuI_1, zuI_2, zuJ_1, zuJ_2, zuJ_3, zuP_1, zuP_2, zuP_3, zuC_1, zuC_2, reduceIte, Nat.reduceEqDiff, false_and, and_false, true_and, and_true, and_self, or_true, true_or, or_false, false_or]; omega)) (by repeat (first | exact zsm_rf | assumption | refine zsm_C (by decide) ?_ | refine zsm_I (by decide) ?_ | refine zsm_J ?_ | refine zsm_c (by assumption) (by decide) ?_))) (zwk_s rfl (zwk_s rfl (zwk_s rfl (zwk_s rfl (zwk_n (zwk_s rfl (zwk_s rfl (zwk_n (zwk_n zwk_0)))))))))
                      · skip
                        refine zs_goto (tgt := 109) (pc := 95) C dX9_goesBy_95 (by decide) ?_
                        exact zs_wk (J109 _ _ _ (by first | omega | (simp only [zuI_1, zuI_2, zuJ_1, zuJ_2, zuJ_3, zuP_1, zuP_2, zuP_3, zuC_1, zuC_2, reduceIte, Nat.reduceEqDiff, false_and, and_false, true_and, and_true, and_self, or_true, true_or, or_false, false_or]; omega)) (by repeat (first | exact zsm_rf | assumption | refine zsm_C (by decide) ?_ | refine zsm_I (by decide) ?_ | refine zsm_J ?_ | refine zsm_c (by assumption) (by decide) ?_))) (zwk_s rfl (zwk_s rfl (zwk_s rfl (zwk_s rfl (zwk_n (zwk_s rfl (zwk_s rfl (zwk_n (zwk_n zwk_0)))))))))
                    · skip
                      refine zs_goto (tgt := 109) (pc := 74) C dX9_goesBy_74 (by decide) ?_
                      exact zs_wk (J109 _ _ _ (by first | omega | (simp only [zuI_1, zuI_2, zuJ_1, zuJ_2, zuJ_3, zuP_1, zuP_2, zuP_3, zuC_1, zuC_2, reduceIte, Nat.reduceEqDiff, false_and, and_false, true_and, and_true, and_self, or_true, true_or, or_false, false_or]; omega)) (by repeat (first | exact zsm_rf | assumption | refine zsm_C (by decide) ?_ | refine zsm_I (by decide) ?_ | refine zsm_J ?_ | refine zsm_c (by assumption) (by decide) ?_))) (zwk_s rfl (zwk_s rfl (zwk_s rfl (zwk_s rfl (zwk_n (zwk_s rfl (zwk_s rfl (zwk_n (zwk_n zwk_0)))))))))
                · skip
                  refine zs_aload_n (pc := 48) C dX9_goesBy_48 rfl ?_
                  refine zs_geti (r := 1075) (pc := 49) C dX9_goesBy_49 w_X9_482 f_10_75 rfl (r_1075 0) (fun v49 e49 l49 u49 => ?_)
                  refine zs_iload (pc := 52) C dX9_goesBy_52 rfl ?_
                  refine zs_icmp_eq (tgt := 109) (pc := 54) C dX9_goesBy_54 (by decide) (fun h54 => ?_) (fun h54 => ?_)
                  · skip
                    exact zs_wk (J109 _ _ _ (by first | omega | (simp only [zuI_1, zuI_2, zuJ_1, zuJ_2, zuJ_3, zuP_1, zuP_2, zuP_3, zuC_1, zuC_2, reduceIte, Nat.reduceEqDiff, false_and, and_false, true_and, and_true, and_self, or_true, true_or, or_false, false_or]; omega)) (by repeat (first | exact zsm_rf | assumption | refine zsm_C (by decide) ?_ | refine zsm_I (by decide) ?_ | refine zsm_J ?_ | refine zsm_c (by assumption) (by decide) ?_))) (zwk_s rfl (zwk_s rfl (zwk_s rfl (zwk_s rfl (zwk_n (zwk_s rfl (zwk_s rfl (zwk_n (zwk_n zwk_0)))))))))
                  · skip
                    refine zs_aload_n (pc := 57) C dX9_goesBy_57 rfl ?_
                    refine zs_geti (r := 1074) (pc := 58) C dX9_goesBy_58 w_X9_148 f_10_74 rfl (r_1074 0) (fun v58 e58 l58 u58 => ?_)
                    refine zs_iconst (pc := 61) C dX9_goesBy_61 (by decide) ?_
                    refine zs_icmp_ne (tgt := 77) (pc := 62) C dX9_goesBy_62 (by decide) (fun h62 => ?_) (fun h62 => ?_)
                    · skip
                      refine zs_aload_n (pc := 77) C dX9_goesBy_77 rfl ?_
                      refine zs_iload_n (pc := 78) C dX9_goesBy_78 rfl ?_
                      refine zs_iload (pc := 79) C dX9_goesBy_79 rfl ?_
                      refine zs_iload (pc := 81) C dX9_goesBy_81 rfl ?_
                      refine zVj3 (pc := 83) C dX9_goesBy_83 v_X9_485 (c_X9_wantOf hX (by repeat (first | assumption | refine MI_I (by decide) ?_ | refine MI_J ?_ | refine MI_sm (by assumption) (by decide) ?_ | refine MI_sn (by assumption) (by decide) ?_)) (by omega) (by omega) (by omega)) (by decide) (by decide) ⟨Nat.zero_le _, Nat.zero_le _⟩ (Nat.le_of_ble_eq_true rfl) (fun x83 G83 l83 u83 hp83 => ?_)
                      obtain ⟨hz83, hq83⟩ := hp83
                      refine zs_lstore (pc := 86) C dX9_goesBy_86 (by decide) ?_
                      dsimp only [zset, zclr, znone]
                      refine zs_lload (pc := 88) C dX9_goesBy_88 rfl ?_
                      refine zs_lload_n (pc := 90) C dX9_goesBy_90 rfl ?_
                      refine zs_lcmp (pc := 91) C dX9_goesBy_91 (fun z91 hz91 => ?_)
                      refine zs_if_gt (tgt := 98) (pc := 92) C dX9_goesBy_92 (by decide) (fun h92 => ?_) (fun h92 => ?_)
                      · skip
                        refine zs_iconst (pc := 98) C dX9_goesBy_98 (by decide) ?_
                        refine zs_iload (pc := 99) C dX9_goesBy_99 rfl ?_
                        first | refine zs_imul (pc := 101) C dX9_goesBy_101 (by omega) ?_ | refine zs_imulF (pc := 101) C dX9_goesBy_101 (fun z101 hz1011 hz1012 => ?_)
                        refine zs_iload (pc := 102) C dX9_goesBy_102 rfl ?_
                        first | refine zs_iadd (pc := 104) C dX9_goesBy_104 (by omega) ?_ | refine zs_iaddF (pc := 104) C dX9_goesBy_104 (fun z104 hz1041 hz1042 => ?_)
                        refine zs_istore_n (pc := 105) C dX9_goesBy_105 (by decide) ?_
                        dsimp only [zset, zclr, znone]
                        refine zs_lload (pc := 106) C dX9_goesBy_106 rfl ?_
                        refine zs_lstore_n (pc := 108) C dX9_goesBy_108 (by decide) ?_
                        dsimp only [zset, zclr, znone]
                        exact zs_wk (J109 _ _ _ (by first | omega | (simp only [zuI_1, zuI_2, zuJ_1, zuJ_2, zuJ_3, zuP_1, zuP_2, zuP_3, zuC_1, zuC_2, reduceIte, Nat.reduceEqDiff, false_and, and_false, true_and, and_true, and_self, or_true, true_or, or_false, false_or]; omega)) (by repeat (first | exact zsm_rf | assumption | refine zsm_C (by decide) ?_ | refine zsm_I (by decide) ?_ | refine zsm_J ?_ | refine zsm_c (by assumption) (by decide) ?_))) (zwk_s rfl (zwk_s rfl (zwk_s rfl (zwk_s rfl (zwk_n (zwk_s rfl (zwk_s rfl (zwk_n (zwk_n zwk_0)))))))))
                      · skip
                        refine zs_goto (tgt := 109) (pc := 95) C dX9_goesBy_95 (by decide) ?_
                        exact zs_wk (J109 _ _ _ (by first | omega | (simp only [zuI_1, zuI_2, zuJ_1, zuJ_2, zuJ_3, zuP_1, zuP_2, zuP_3, zuC_1, zuC_2, reduceIte, Nat.reduceEqDiff, false_and, and_false, true_and, and_true, and_self, or_true, true_or, or_false, false_or]; omega)) (by repeat (first | exact zsm_rf | assumption | refine zsm_C (by decide) ?_ | refine zsm_I (by decide) ?_ | refine zsm_J ?_ | refine zsm_c (by assumption) (by decide) ?_))) (zwk_s rfl (zwk_s rfl (zwk_s rfl (zwk_s rfl (zwk_n (zwk_s rfl (zwk_s rfl (zwk_n (zwk_n zwk_0)))))))))
                    · skip
                      refine zs_aload_n (pc := 65) C dX9_goesBy_65 rfl ?_
                      refine zs_geti (r := 1075) (pc := 66) C dX9_goesBy_66 w_X9_482 f_10_75 rfl (r_1075 0) (fun v66 e66 l66 u66 => ?_)
                      refine zs_iload (pc := 69) C dX9_goesBy_69 rfl ?_
                      refine zs_icmp_ne (tgt := 77) (pc := 71) C dX9_goesBy_71 (by decide) (fun h71 => ?_) (fun h71 => ?_)
                      · skip
                        refine zs_aload_n (pc := 77) C dX9_goesBy_77 rfl ?_
                        refine zs_iload_n (pc := 78) C dX9_goesBy_78 rfl ?_
                        refine zs_iload (pc := 79) C dX9_goesBy_79 rfl ?_
                        refine zs_iload (pc := 81) C dX9_goesBy_81 rfl ?_
                        refine zVj3 (pc := 83) C dX9_goesBy_83 v_X9_485 (c_X9_wantOf hX (by repeat (first | assumption | refine MI_I (by decide) ?_ | refine MI_J ?_ | refine MI_sm (by assumption) (by decide) ?_ | refine MI_sn (by assumption) (by decide) ?_)) (by omega) (by omega) (by omega)) (by decide) (by decide) ⟨Nat.zero_le _, Nat.zero_le _⟩ (Nat.le_of_ble_eq_true rfl) (fun x83 G83 l83 u83 hp83 => ?_)
                        obtain ⟨hz83, hq83⟩ := hp83
                        refine zs_lstore (pc := 86) C dX9_goesBy_86 (by decide) ?_
                        dsimp only [zset, zclr, znone]
                        refine zs_lload (pc := 88) C dX9_goesBy_88 rfl ?_
                        refine zs_lload_n (pc := 90) C dX9_goesBy_90 rfl ?_
                        refine zs_lcmp (pc := 91) C dX9_goesBy_91 (fun z91 hz91 => ?_)
                        refine zs_if_gt (tgt := 98) (pc := 92) C dX9_goesBy_92 (by decide) (fun h92 => ?_) (fun h92 => ?_)
                        · skip
                          refine zs_iconst (pc := 98) C dX9_goesBy_98 (by decide) ?_
                          refine zs_iload (pc := 99) C dX9_goesBy_99 rfl ?_
                          first | refine zs_imul (pc := 101) C dX9_goesBy_101 (by omega) ?_ | refine zs_imulF (pc := 101) C dX9_goesBy_101 (fun z101 hz1011 hz1012 => ?_)
                          refine zs_iload (pc := 102) C dX9_goesBy_102 rfl ?_
                          first | refine zs_iadd (pc := 104) C dX9_goesBy_104 (by omega) ?_ | refine zs_iaddF (pc := 104) C dX9_goesBy_104 (fun z104 hz1041 hz1042 => ?_)
                          refine zs_istore_n (pc := 105) C dX9_goesBy_105 (by decide) ?_
                          dsimp only [zset, zclr, znone]
                          refine zs_lload (pc := 106) C dX9_goesBy_106 rfl ?_
                          refine zs_lstore_n (pc := 108) C dX9_goesBy_108 (by decide) ?_
                          dsimp only [zset, zclr, znone]
                          exact zs_wk (J109 _ _ _ (by first | omega | (simp only [zuI_1, zuI_2, zuJ_1, zuJ_2, zuJ_3, zuP_1, zuP_2, zuP_3, zuC_1, zuC_2, reduceIte, Nat.reduceEqDiff, false_and, and_false, true_and, and_true, and_self, or_true, true_or, or_false, false_or]; omega)) (by repeat (first | exact zsm_rf | assumption | refine zsm_C (by decide) ?_ | refine zsm_I (by decide) ?_ | refine zsm_J ?_ | refine zsm_c (by assumption) (by decide) ?_))) (zwk_s rfl (zwk_s rfl (zwk_s rfl (zwk_s rfl (zwk_n (zwk_s rfl (zwk_s rfl (zwk_n (zwk_n zwk_0)))))))))
                        · skip
                          refine zs_goto (tgt := 109) (pc := 95) C dX9_goesBy_95 (by decide) ?_
                          exact zs_wk (J109 _ _ _ (by first | omega | (simp only [zuI_1, zuI_2, zuJ_1, zuJ_2, zuJ_3, zuP_1, zuP_2, zuP_3, zuC_1, zuC_2, reduceIte, Nat.reduceEqDiff, false_and, and_false, true_and, and_true, and_self, or_true, true_or, or_false, false_or]; omega)) (by repeat (first | exact zsm_rf | assumption | refine zsm_C (by decide) ?_ | refine zsm_I (by decide) ?_ | refine zsm_J ?_ | refine zsm_c (by assumption) (by decide) ?_))) (zwk_s rfl (zwk_s rfl (zwk_s rfl (zwk_s rfl (zwk_n (zwk_s rfl (zwk_s rfl (zwk_n (zwk_n zwk_0)))))))))
                      · skip
                        refine zs_goto (tgt := 109) (pc := 74) C dX9_goesBy_74 (by decide) ?_
                        exact zs_wk (J109 _ _ _ (by first | omega | (simp only [zuI_1, zuI_2, zuJ_1, zuJ_2, zuJ_3, zuP_1, zuP_2, zuP_3, zuC_1, zuC_2, reduceIte, Nat.reduceEqDiff, false_and, and_false, true_and, and_true, and_self, or_true, true_or, or_false, false_or]; omega)) (by repeat (first | exact zsm_rf | assumption | refine zsm_C (by decide) ?_ | refine zsm_I (by decide) ?_ | refine zsm_J ?_ | refine zsm_c (by assumption) (by decide) ?_))) (zwk_s rfl (zwk_s rfl (zwk_s rfl (zwk_s rfl (zwk_n (zwk_s rfl (zwk_s rfl (zwk_n (zwk_n zwk_0)))))))))
        exact zs_wk (L19 _ _ _ _ _ (by first | omega | (simp only [zuI_1, zuI_2, zuJ_1, zuJ_2, zuJ_3, zuP_1, zuP_2, zuP_3, zuC_1, zuC_2, reduceIte, Nat.reduceEqDiff, false_and, and_false, true_and, and_true, and_self, or_true, true_or, or_false, false_or]; omega)) (by first | omega | (simp only [zuI_1, zuI_2, zuJ_1, zuJ_2, zuJ_3, zuP_1, zuP_2, zuP_3, zuC_1, zuC_2, reduceIte, Nat.reduceEqDiff, false_and, and_false, true_and, and_true, and_self, or_true, true_or, or_false, false_or]; omega)) (by repeat (first | exact zsm_rf | assumption | refine zsm_C (by decide) ?_ | refine zsm_I (by decide) ?_ | refine zsm_J ?_ | refine zsm_c (by assumption) (by decide) ?_)) (Nat.lt_succ_self _)) (zwk_s rfl (zwk_s rfl (zwk_s rfl (zwk_s rfl (zwk_n (zwk_s rfl (zwk_s rfl (zwk_n (zwk_n zwk_0)))))))))
  exact zs_wk (L7 _ _ _ _ _ (by first | omega | (simp only [zuI_1, zuI_2, zuJ_1, zuJ_2, zuJ_3, zuP_1, zuP_2, zuP_3, zuC_1, zuC_2, reduceIte, Nat.reduceEqDiff, false_and, and_false, true_and, and_true, and_self, or_true, true_or, or_false, false_or]; omega)) (by first | omega | (simp only [zuI_1, zuI_2, zuJ_1, zuJ_2, zuJ_3, zuP_1, zuP_2, zuP_3, zuC_1, zuC_2, reduceIte, Nat.reduceEqDiff, false_and, and_false, true_and, and_true, and_self, or_true, true_or, or_false, false_or]; omega)) (by repeat (first | exact zsm_rf | assumption | refine zsm_C (by decide) ?_ | refine zsm_I (by decide) ?_ | refine zsm_J ?_ | refine zsm_c (by assumption) (by decide) ?_)) (Nat.lt_succ_self _)) (zwk_s rfl (zwk_s rfl (zwk_s rfl (zwk_s rfl (zwk_n (zwk_s rfl (zwk_n (zwk_n (zwk_n zwk_0)))))))))

set_option maxHeartbeats 4000000 in
set_option maxRecDepth 100000 in
theorem c_X9_goesByE {l : Launch} {Γ : zΓ} {G : zH} {w : Nat} {b0 : Int} (hX : zXs Γ) (hM : MI Γ w G)(hb : b0 = 0 ∨ b0 = 1) : zMet l Γ yX9_goesBy cX9_goesBy 9 none 6 [zr 10 w, zi b0] G (zpv (fun G' => zsm [1050, 2091, 2092, 2093, 2094, 2095, 2096, 2097, 2098, 2099, 2100, 2088, 2087, 2082, 2084, 2083, 2089, 2086, 1073, 2090] G G' ∧ (∀ j : Nat, j ≠ b0.toNat → G'.1 2090 (Γ.2.1 w 60) j = G.1 2090 (Γ.2.1 w 60) j))) := by
  refine zMet_of RX9 hX (by decide) rfl (Nat.le_of_ble_eq_true rfl) ?_
  intro p e s m args below meth c C hr hlk
  show Z p l e (zrm 6) s m args below meth c Γ 9 0 0 (MQ below (zQc Γ (zpv (fun G' => zsm [1050, 2091, 2092, 2093, 2094, 2095, 2096, 2097, 2098, 2099, 2100, 2088, 2087, 2082, 2084, 2083, 2089, 2086, 1073, 2090] G G' ∧ (∀ j : Nat, j ≠ b0.toNat → G'.1 2090 (Γ.2.1 w 60) j = G.1 2090 (Γ.2.1 w 60) j)))) args s 0 0 (zA Γ)) 0 [some (zr 10 w), some (zi b0), none, none, none, none, none, none, none] [] G
  refine zs_loc 1 rfl (fun ha1 hb1 => ?_)
  refine zs_iconst (pc := 0) C dX9_goesBy_0 (by decide) ?_
  refine zs_istore_n (pc := 1) C dX9_goesBy_1 (by decide) ?_
  dsimp only [zset, zclr, znone]
  refine zs_lconst (n := 0) (pc := 2) C dX9_goesBy_2 rfl (by decide) ?_
  refine zs_lstore_n (pc := 3) C dX9_goesBy_3 (by decide) ?_
  dsimp only [zset, zclr, znone]
  refine zs_iconst (pc := 4) C dX9_goesBy_4 (by decide) ?_
  refine zs_istore (pc := 5) C dX9_goesBy_5 (by decide) ?_
  dsimp only [zset, zclr, znone]
  have L7 : ∀ (nn : Nat) (x2 x3 x5 : Int) (G1 : zH), (0 ≤ x5 ∧ x5 ≤ 5) → (-1 ≤ x2 ∧ x2 ≤ 19) → (zsm [1050, 2091, 2092, 2093, 2094, 2095, 2096, 2097, 2098, 2099, 2100, 2088, 2087, 2082, 2084, 2083, 2089, 2086, 1073] G G1) → (5 - x5).toNat < nn → Z p l e (zrm 6) s m args below meth c Γ 9 0 0 (MQ below (zQc Γ (zpv (fun G' => zsm [1050, 2091, 2092, 2093, 2094, 2095, 2096, 2097, 2098, 2099, 2100, 2088, 2087, 2082, 2084, 2083, 2089, 2086, 1073, 2090] G G' ∧ (∀ j : Nat, j ≠ b0.toNat → G'.1 2090 (Γ.2.1 w 60) j = G.1 2090 (Γ.2.1 w 60) j)))) args s 0 0 (zA Γ)) 7 [some (zr 10 w), some (zi b0), some (zi x2), some (zj x3), none, some (zi x5), none, none, none] [] G1 := by
    intro nn
    induction nn with
    | zero => intro x2 x3 x5 G1 h7_0 h7_1 h7_2 hm; exact absurd hm (Nat.not_lt_zero _)
    | succ nn ih7 =>
      intro x2 x3 x5 G1 h7_0 h7_1 h7_2 hm7
      refine zs_iload (pc := 7) C dX9_goesBy_7 rfl ?_
      refine zs_aload_n (pc := 9) C dX9_goesBy_9 rfl ?_
      refine zs_geti (r := 1013) (pc := 10) C dX9_goesBy_10 w_X9_261 f_10_13 rfl (r_1013 0) (fun v10 e10 l10 u10 => ?_)
      refine zs_icmp_ge (tgt := 121) (pc := 13) C dX9_goesBy_13 (by decide) (fun h13 => ?_) (fun h13 => ?_)
      · skip
        have J145 : ∀ (G5 : zH), (zsm [1050, 2091, 2092, 2093, 2094, 2095, 2096, 2097, 2098, 2099, 2100, 2088, 2087, 2082, 2084, 2083, 2089, 2086, 1073] G G5) → Z p l e (zrm 6) s m args below meth c Γ 9 0 0 (MQ below (zQc Γ (zpv (fun G' => zsm [1050, 2091, 2092, 2093, 2094, 2095, 2096, 2097, 2098, 2099, 2100, 2088, 2087, 2082, 2084, 2083, 2089, 2086, 1073, 2090] G G' ∧ (∀ j : Nat, j ≠ b0.toNat → G'.1 2090 (Γ.2.1 w 60) j = G.1 2090 (Γ.2.1 w 60) j)))) args s 0 0 (zA Γ)) 145 [some (zr 10 w), some (zi b0), none, none, none, none, none, none, none] [] G5 := by
          intro G5 h145_0
          refine zs_iconst (pc := 145) C dX9_goesBy_145 (by decide) ?_
          refine zs_istore (pc := 146) C dX9_goesBy_146 (by decide) ?_
          dsimp only [zset, zclr, znone]
          have L148 : ∀ (nn : Nat) (x5 : Int) (G6 : zH), (0 ≤ x5 ∧ x5 ≤ 5) → (zsm [1050, 2091, 2092, 2093, 2094, 2095, 2096, 2097, 2098, 2099, 2100, 2088, 2087, 2082, 2084, 2083, 2089, 2086, 1073] G G6) → (5 - x5).toNat < nn → Z p l e (zrm 6) s m args below meth c Γ 9 0 0 (MQ below (zQc Γ (zpv (fun G' => zsm [1050, 2091, 2092, 2093, 2094, 2095, 2096, 2097, 2098, 2099, 2100, 2088, 2087, 2082, 2084, 2083, 2089, 2086, 1073, 2090] G G' ∧ (∀ j : Nat, j ≠ b0.toNat → G'.1 2090 (Γ.2.1 w 60) j = G.1 2090 (Γ.2.1 w 60) j)))) args s 0 0 (zA Γ)) 148 [some (zr 10 w), some (zi b0), none, none, none, some (zi x5), none, none, none] [] G6 := by
            intro nn
            induction nn with
            | zero => intro x5 G6 h148_0 h148_1 hm; exact absurd hm (Nat.not_lt_zero _)
            | succ nn ih148 =>
              intro x5 G6 h148_0 h148_1 hm148
              refine zs_iload (pc := 148) C dX9_goesBy_148 rfl ?_
              refine zs_aload_n (pc := 150) C dX9_goesBy_150 rfl ?_
              refine zs_geti (r := 1014) (pc := 151) C dX9_goesBy_151 w_X9_264 f_10_14 rfl (r_1014 0) (fun v151 e151 l151 u151 => ?_)
              refine zs_icmp_ge (tgt := 196) (pc := 154) C dX9_goesBy_154 (by decide) (fun h154 => ?_) (fun h154 => ?_)
              · skip
                refine zs_aload_n (pc := 196) C dX9_goesBy_196 rfl ?_
                refine zs_getf (pc := 197) C dX9_goesBy_197 w_X9_115 f_10_60 (by decide) ?_
                refine zs_iload_n (pc := 200) C dX9_goesBy_200 rfl ?_
                refine zs_dup2 (pc := 201) C dX9_goesBy_201 ?_
                refine zs_iald (r := 2090) (pc := 202) C dX9_goesBy_202 a_90 (by decide) (by omega) rfl (r_2090 _) (fun v202 e202 l202 u202 => ?_)
                refine zs_iconst (pc := 203) C dX9_goesBy_203 (by decide) ?_
                first | refine zs_iadd (pc := 204) C dX9_goesBy_204 (by omega) ?_ | refine zs_iaddF (pc := 204) C dX9_goesBy_204 (fun z204 hz2041 hz2042 => ?_)
                refine zs_iast (r := 2090) (pc := 205) C dX9_goesBy_205 a_90 (by decide) (by omega) rfl (r_2090 _) (by omega) ?_
                exact zs_vret (pc := 206) C hr hlk dX9_goesBy_206 ⟨by repeat (first | exact zsm_rf | assumption | refine zsm_C (by decide) ?_ | refine zsm_I (by decide) ?_ | refine zsm_J ?_ | refine zsm_c (by assumption) (by decide) ?_), (fun j hj => by rw [zuI_1, if_neg (fun q => hj q.2.2)]; exact zsm_at h148_1 2090 _ _ (by decide))⟩
              · skip
                refine zs_aload_n (pc := 157) C dX9_goesBy_157 rfl ?_
                refine zs_getf (pc := 158) C dX9_goesBy_158 w_X9_51 f_10_32 (by decide) ?_
                refine zs_iload (pc := 161) C dX9_goesBy_161 rfl ?_
                refine zs_iald (r := 2069) (pc := 163) C dX9_goesBy_163 a_69 (by decide) (by omega) rfl (r_2069 _) (fun v163 e163 l163 u163 => ?_)
                refine zs_aload_n (pc := 164) C dX9_goesBy_164 rfl ?_
                refine zs_getf (pc := 165) C dX9_goesBy_165 w_X9_115 f_10_60 (by decide) ?_
                refine zs_iload_n (pc := 168) C dX9_goesBy_168 rfl ?_
                refine zs_iald (r := 2090) (pc := 169) C dX9_goesBy_169 a_90 (by decide) (by omega) rfl (r_2090 _) (fun v169 e169 l169 u169 => ?_)
                refine zs_icmp_ne (tgt := 190) (pc := 170) C dX9_goesBy_170 (by decide) (fun h170 => ?_) (fun h170 => ?_)
                · skip
                  first | refine zs_iinc (pc := 190) C dX9_goesBy_190 rfl (by decide) (by omega) ?_ | refine zs_iincF (pc := 190) C dX9_goesBy_190 rfl (by decide) (fun z190 hz1901 hz1902 => ?_)
                  dsimp only [zset, zclr, znone]
                  refine zs_goto (tgt := 148) (pc := 193) C dX9_goesBy_193 (by decide) ?_
                  exact zs_wk (ih148 _ _ (by first | omega | (simp only [zuI_1, zuI_2, zuJ_1, zuJ_2, zuJ_3, zuP_1, zuP_2, zuP_3, zuC_1, zuC_2, reduceIte, Nat.reduceEqDiff, false_and, and_false, true_and, and_true, and_self, or_true, true_or, or_false, false_or]; omega)) (by repeat (first | exact zsm_rf | assumption | refine zsm_C (by decide) ?_ | refine zsm_I (by decide) ?_ | refine zsm_J ?_ | refine zsm_c (by assumption) (by decide) ?_)) (by first | omega | (simp only [zuI_1, zuI_2, zuJ_1, zuJ_2, zuJ_3, zuP_1, zuP_2, zuP_3, zuC_1, zuC_2, reduceIte, Nat.reduceEqDiff, false_and, and_false, true_and, and_true, and_self, or_true, true_or, or_false, false_or]; omega))) (zwk_s rfl (zwk_s rfl (zwk_n (zwk_n (zwk_n (zwk_s rfl (zwk_n (zwk_n (zwk_n zwk_0)))))))))
                · skip
                  refine zs_aload_n (pc := 173) C dX9_goesBy_173 rfl ?_
                  refine zs_iload_n (pc := 174) C dX9_goesBy_174 rfl ?_
                  refine zs_iload (pc := 175) C dX9_goesBy_175 rfl ?_
                  refine zVip2 (pc := 177) C dX9_goesBy_177 v_X9_474 (c_X9_canBake hX (by omega) (by omega)) (by decide) (by decide) ⟨Nat.zero_le _, Nat.zero_le _⟩ (Nat.le_of_ble_eq_true rfl) (fun x177 l177 u177 hp177 => ?_)
                  have hq177 := hp177
                  refine zs_if_eq (tgt := 190) (pc := 180) C dX9_goesBy_180 (by decide) (fun h180 => ?_) (fun h180 => ?_)
                  · skip
                    first | refine zs_iinc (pc := 190) C dX9_goesBy_190 rfl (by decide) (by omega) ?_ | refine zs_iincF (pc := 190) C dX9_goesBy_190 rfl (by decide) (fun z190 hz1901 hz1902 => ?_)
                    dsimp only [zset, zclr, znone]
                    refine zs_goto (tgt := 148) (pc := 193) C dX9_goesBy_193 (by decide) ?_
                    exact zs_wk (ih148 _ _ (by first | omega | (simp only [zuI_1, zuI_2, zuJ_1, zuJ_2, zuJ_3, zuP_1, zuP_2, zuP_3, zuC_1, zuC_2, reduceIte, Nat.reduceEqDiff, false_and, and_false, true_and, and_true, and_self, or_true, true_or, or_false, false_or]; omega)) (by repeat (first | exact zsm_rf | assumption | refine zsm_C (by decide) ?_ | refine zsm_I (by decide) ?_ | refine zsm_J ?_ | refine zsm_c (by assumption) (by decide) ?_)) (by first | omega | (simp only [zuI_1, zuI_2, zuJ_1, zuJ_2, zuJ_3, zuP_1, zuP_2, zuP_3, zuC_1, zuC_2, reduceIte, Nat.reduceEqDiff, false_and, and_false, true_and, and_true, and_self, or_true, true_or, or_false, false_or]; omega))) (zwk_s rfl (zwk_s rfl (zwk_n (zwk_n (zwk_n (zwk_s rfl (zwk_n (zwk_n (zwk_n zwk_0)))))))))
                  · skip
                    refine zs_aload_n (pc := 183) C dX9_goesBy_183 rfl ?_
                    refine zs_iload_n (pc := 184) C dX9_goesBy_184 rfl ?_
                    refine zs_iload (pc := 185) C dX9_goesBy_185 rfl ?_
                    refine zVv2 (pc := 187) C dX9_goesBy_187 v_X9_477 (c_X9_bakes hX (by omega) (by omega) (by omega)) (by decide) (by decide) ⟨Nat.zero_le _, Nat.zero_le _⟩ (Nat.le_of_ble_eq_true rfl) (fun G187 hp187 => ?_)
                    obtain ⟨hz187, hq187⟩ := hp187
                    first | refine zs_iinc (pc := 190) C dX9_goesBy_190 rfl (by decide) (by omega) ?_ | refine zs_iincF (pc := 190) C dX9_goesBy_190 rfl (by decide) (fun z190 hz1901 hz1902 => ?_)
                    dsimp only [zset, zclr, znone]
                    refine zs_goto (tgt := 148) (pc := 193) C dX9_goesBy_193 (by decide) ?_
                    exact zs_wk (ih148 _ _ (by first | omega | (simp only [zuI_1, zuI_2, zuJ_1, zuJ_2, zuJ_3, zuP_1, zuP_2, zuP_3, zuC_1, zuC_2, reduceIte, Nat.reduceEqDiff, false_and, and_false, true_and, and_true, and_self, or_true, true_or, or_false, false_or]; omega)) (by repeat (first | exact zsm_rf | assumption | refine zsm_C (by decide) ?_ | refine zsm_I (by decide) ?_ | refine zsm_J ?_ | refine zsm_c (by assumption) (by decide) ?_)) (by first | omega | (simp only [zuI_1, zuI_2, zuJ_1, zuJ_2, zuJ_3, zuP_1, zuP_2, zuP_3, zuC_1, zuC_2, reduceIte, Nat.reduceEqDiff, false_and, and_false, true_and, and_true, and_self, or_true, true_or, or_false, false_or]; omega))) (zwk_s rfl (zwk_s rfl (zwk_n (zwk_n (zwk_n (zwk_s rfl (zwk_n (zwk_n (zwk_n zwk_0)))))))))
          exact zs_wk (L148 _ _ _ (by first | omega | (simp only [zuI_1, zuI_2, zuJ_1, zuJ_2, zuJ_3, zuP_1, zuP_2, zuP_3, zuC_1, zuC_2, reduceIte, Nat.reduceEqDiff, false_and, and_false, true_and, and_true, and_self, or_true, true_or, or_false, false_or]; omega)) (by repeat (first | exact zsm_rf | assumption | refine zsm_C (by decide) ?_ | refine zsm_I (by decide) ?_ | refine zsm_J ?_ | refine zsm_c (by assumption) (by decide) ?_)) (Nat.lt_succ_self _)) (zwk_s rfl (zwk_s rfl (zwk_n (zwk_n (zwk_n (zwk_s rfl (zwk_n (zwk_n (zwk_n zwk_0)))))))))
        refine zs_iload_n (pc := 121) C dX9_goesBy_121 rfl ?_
        refine zs_if_lt (tgt := 145) (pc := 122) C dX9_goesBy_122 (by decide) (fun h122 => ?_) (fun h122 => ?_)
        · skip
          exact zs_wk (J145 _ (by repeat (first | exact zsm_rf | assumption | refine zsm_C (by decide) ?_ | refine zsm_I (by decide) ?_ | refine zsm_J ?_ | refine zsm_c (by assumption) (by decide) ?_))) (zwk_s rfl (zwk_s rfl (zwk_n (zwk_n (zwk_n (zwk_n (zwk_n (zwk_n (zwk_n zwk_0)))))))))
        · skip
          refine zs_aload_n (pc := 125) C dX9_goesBy_125 rfl ?_
          refine zs_iload_n (pc := 126) C dX9_goesBy_126 rfl ?_
          refine zVip1 (pc := 127) C dX9_goesBy_127 v_X9_439 (c_X9_canGrind hX (by omega)) (by decide) (by decide) ⟨Nat.zero_le _, Nat.zero_le _⟩ (Nat.le_of_ble_eq_true rfl) (fun x127 l127 u127 hp127 => ?_)
          have hq127 := hp127
          refine zs_if_eq (tgt := 145) (pc := 130) C dX9_goesBy_130 (by decide) (fun h130 => ?_) (fun h130 => ?_)
          · skip
            exact zs_wk (J145 _ (by repeat (first | exact zsm_rf | assumption | refine zsm_C (by decide) ?_ | refine zsm_I (by decide) ?_ | refine zsm_J ?_ | refine zsm_c (by assumption) (by decide) ?_))) (zwk_s rfl (zwk_s rfl (zwk_n (zwk_n (zwk_n (zwk_n (zwk_n (zwk_n (zwk_n zwk_0)))))))))
          · skip
            refine zs_aload_n (pc := 133) C dX9_goesBy_133 rfl ?_
            refine zs_iload_n (pc := 134) C dX9_goesBy_134 rfl ?_
            refine zs_iload_n (pc := 135) C dX9_goesBy_135 rfl ?_
            refine zs_iconst (pc := 136) C dX9_goesBy_136 (by decide) ?_
            first | refine zs_idiv (pc := 137) C dX9_goesBy_137 (by omega) (by omega) (fun hz1371 hz1372 => ?_) | refine zs_idivF (pc := 137) C dX9_goesBy_137 (by omega) (fun z137 hz1371 hz1372 => ?_)
            refine zs_iload_n (pc := 138) C dX9_goesBy_138 rfl ?_
            refine zs_iconst (pc := 139) C dX9_goesBy_139 (by decide) ?_
            first | refine zs_irem (pc := 140) C dX9_goesBy_140 (by omega) (by omega) (fun hz1401 hz1402 => ?_) | refine zs_iremF (pc := 140) C dX9_goesBy_140 (by omega) (fun z140 hz1401 hz1402 => ?_)
            refine zVi3 (pc := 141) C dX9_goesBy_141 v_X9_445 (c_X9_grinds hX (by repeat (first | assumption | refine MI_I (by decide) ?_ | refine MI_J ?_ | refine MI_sm (by assumption) (by decide) ?_ | refine MI_sn (by assumption) (by decide) ?_)) (by omega) (by omega) (by omega) (by omega) (by omega)) (by decide) (by decide) ⟨Nat.zero_le _, Nat.zero_le _⟩ (Nat.le_of_ble_eq_true rfl) (fun x141 G141 l141 u141 hp141 => ?_)
            obtain ⟨hz141, hq141⟩ := hp141
            refine zs_popi (pc := 144) C dX9_goesBy_144 ?_
            exact zs_wk (J145 _ (by repeat (first | exact zsm_rf | assumption | refine zsm_C (by decide) ?_ | refine zsm_I (by decide) ?_ | refine zsm_J ?_ | refine zsm_c (by assumption) (by decide) ?_))) (zwk_s rfl (zwk_s rfl (zwk_n (zwk_n (zwk_n (zwk_n (zwk_n (zwk_n (zwk_n zwk_0)))))))))
      · skip
        refine zs_iconst (pc := 16) C dX9_goesBy_16 (by decide) ?_
        refine zs_istore (pc := 17) C dX9_goesBy_17 (by decide) ?_
        dsimp only [zset, zclr, znone]
        have L19 : ∀ (nn : Nat) (x2 x3 x6 : Int) (G2 : zH), (0 ≤ x6 ∧ x6 ≤ 4) → (-1 ≤ x2 ∧ x2 ≤ 19) → (zsm [1050, 2091, 2092, 2093, 2094, 2095, 2096, 2097, 2098, 2099, 2100, 2088, 2087, 2082, 2084, 2083, 2089, 2086, 1073] G G2) → (4 - x6).toNat < nn → Z p l e (zrm 6) s m args below meth c Γ 9 0 0 (MQ below (zQc Γ (zpv (fun G' => zsm [1050, 2091, 2092, 2093, 2094, 2095, 2096, 2097, 2098, 2099, 2100, 2088, 2087, 2082, 2084, 2083, 2089, 2086, 1073, 2090] G G' ∧ (∀ j : Nat, j ≠ b0.toNat → G'.1 2090 (Γ.2.1 w 60) j = G.1 2090 (Γ.2.1 w 60) j)))) args s 0 0 (zA Γ)) 19 [some (zr 10 w), some (zi b0), some (zi x2), some (zj x3), none, some (zi x5), some (zi x6), none, none] [] G2 := by
          intro nn
          induction nn with
          | zero => intro x2 x3 x6 G2 h19_0 h19_1 h19_2 hm; exact absurd hm (Nat.not_lt_zero _)
          | succ nn ih19 =>
            intro x2 x3 x6 G2 h19_0 h19_1 h19_2 hm19
            refine zs_iload (pc := 19) C dX9_goesBy_19 rfl ?_
            refine zs_aload_n (pc := 21) C dX9_goesBy_21 rfl ?_
            refine zs_geti (r := 1012) (pc := 22) C dX9_goesBy_22 w_X9_258 f_10_12 rfl (r_1012 0) (fun v22 e22 l22 u22 => ?_)
            refine zs_icmp_ge (tgt := 115) (pc := 25) C dX9_goesBy_25 (by decide) (fun h25 => ?_) (fun h25 => ?_)
            · skip
              first | refine zs_iinc (pc := 115) C dX9_goesBy_115 rfl (by decide) (by omega) ?_ | refine zs_iincF (pc := 115) C dX9_goesBy_115 rfl (by decide) (fun z115 hz1151 hz1152 => ?_)
              dsimp only [zset, zclr, znone]
              refine zs_goto (tgt := 7) (pc := 118) C dX9_goesBy_118 (by decide) ?_
              exact zs_wk (ih7 _ _ _ _ (by first | omega | (simp only [zuI_1, zuI_2, zuJ_1, zuJ_2, zuJ_3, zuP_1, zuP_2, zuP_3, zuC_1, zuC_2, reduceIte, Nat.reduceEqDiff, false_and, and_false, true_and, and_true, and_self, or_true, true_or, or_false, false_or]; omega)) (by first | omega | (simp only [zuI_1, zuI_2, zuJ_1, zuJ_2, zuJ_3, zuP_1, zuP_2, zuP_3, zuC_1, zuC_2, reduceIte, Nat.reduceEqDiff, false_and, and_false, true_and, and_true, and_self, or_true, true_or, or_false, false_or]; omega)) (by repeat (first | exact zsm_rf | assumption | refine zsm_C (by decide) ?_ | refine zsm_I (by decide) ?_ | refine zsm_J ?_ | refine zsm_c (by assumption) (by decide) ?_)) (by first | omega | (simp only [zuI_1, zuI_2, zuJ_1, zuJ_2, zuJ_3, zuP_1, zuP_2, zuP_3, zuC_1, zuC_2, reduceIte, Nat.reduceEqDiff, false_and, and_false, true_and, and_true, and_self, or_true, true_or, or_false, false_or]; omega))) (zwk_s rfl (zwk_s rfl (zwk_s rfl (zwk_s rfl (zwk_n (zwk_s rfl (zwk_n (zwk_n (zwk_n zwk_0)))))))))
            · skip
              refine zs_aload_n (pc := 28) C dX9_goesBy_28 rfl ?_
              refine zs_iload_n (pc := 29) C dX9_goesBy_29 rfl ?_
              refine zs_iload (pc := 30) C dX9_goesBy_30 rfl ?_
              refine zs_iload (pc := 32) C dX9_goesBy_32 rfl ?_
              refine zVip3 (pc := 34) C dX9_goesBy_34 v_X9_394 (c_X9_leftOf hX (by omega) (by omega) (by omega)) (by decide) (by decide) ⟨Nat.zero_le _, Nat.zero_le _⟩ (Nat.le_of_ble_eq_true rfl) (fun x34 l34 u34 hp34 => ?_)
              have hq34 := hp34
              have J109 : ∀ (x2 x3 : Int) (G3 : zH), (-1 ≤ x2 ∧ x2 ≤ 19) → (zsm [1050, 2091, 2092, 2093, 2094, 2095, 2096, 2097, 2098, 2099, 2100, 2088, 2087, 2082, 2084, 2083, 2089, 2086, 1073] G G3) → Z p l e (zrm 6) s m args below meth c Γ 9 0 0 (MQ below (zQc Γ (zpv (fun G' => zsm [1050, 2091, 2092, 2093, 2094, 2095, 2096, 2097, 2098, 2099, 2100, 2088, 2087, 2082, 2084, 2083, 2089, 2086, 1073, 2090] G G' ∧ (∀ j : Nat, j ≠ b0.toNat → G'.1 2090 (Γ.2.1 w 60) j = G.1 2090 (Γ.2.1 w 60) j)))) args s 0 0 (zA Γ)) 109 [some (zr 10 w), some (zi b0), some (zi x2), some (zj x3), none, some (zi x5), some (zi x6), none, none] [] G3 := by
                intro x2 x3 G3 h109_0 h109_1
                first | refine zs_iinc (pc := 109) C dX9_goesBy_109 rfl (by decide) (by omega) ?_ | refine zs_iincF (pc := 109) C dX9_goesBy_109 rfl (by decide) (fun z109 hz1091 hz1092 => ?_)
                dsimp only [zset, zclr, znone]
                refine zs_goto (tgt := 19) (pc := 112) C dX9_goesBy_112 (by decide) ?_
                exact zs_wk (ih19 _ _ _ _ (by first | omega | (simp only [zuI_1, zuI_2, zuJ_1, zuJ_2, zuJ_3, zuP_1, zuP_2, zuP_3, zuC_1, zuC_2, reduceIte, Nat.reduceEqDiff, false_and, and_false, true_and, and_true, and_self, or_true, true_or, or_false, false_or]; omega)) (by first | omega | (simp only [zuI_1, zuI_2, zuJ_1, zuJ_2, zuJ_3, zuP_1, zuP_2, zuP_3, zuC_1, zuC_2, reduceIte, Nat.reduceEqDiff, false_and, and_false, true_and, and_true, and_self, or_true, true_or, or_false, false_or]; omega)) (by repeat (first | exact zsm_rf | assumption | refine zsm_C (by decide) ?_ | refine zsm_I (by decide) ?_ | refine zsm_J ?_ | refine zsm_c (by assumption) (by decide) ?_)) (by first | omega | (simp only [zuI_1, zuI_2, zuJ_1, zuJ_2, zuJ_3, zuP_1, zuP_2, zuP_3, zuC_1, zuC_2, reduceIte, Nat.reduceEqDiff, false_and, and_false, true_and, and_true, and_self, or_true, true_or, or_false, false_or]; omega))) (zwk_s rfl (zwk_s rfl (zwk_s rfl (zwk_s rfl (zwk_n (zwk_s rfl (zwk_s rfl (zwk_n (zwk_n zwk_0)))))))))
              refine zs_if_eq (tgt := 109) (pc := 37) C dX9_goesBy_37 (by decide) (fun h37 => ?_) (fun h37 => ?_)
              · skip
                exact zs_wk (J109 _ _ _ (by first | omega | (simp only [zuI_1, zuI_2, zuJ_1, zuJ_2, zuJ_3, zuP_1, zuP_2, zuP_3, zuC_1, zuC_2, reduceIte, Nat.reduceEqDiff, false_and, and_false, true_and, and_true, and_self, or_true, true_or, or_false, false_or]; omega)) (by repeat (first | exact zsm_rf | assumption | refine zsm_C (by decide) ?_ | refine zsm_I (by decide) ?_ | refine zsm_J ?_ | refine zsm_c (by assumption) (by decide) ?_))) (zwk_s rfl (zwk_s rfl (zwk_s rfl (zwk_s rfl (zwk_n (zwk_s rfl (zwk_s rfl (zwk_n (zwk_n zwk_0)))))))))
              · skip
                refine zs_aload_n (pc := 40) C dX9_goesBy_40 rfl ?_
                refine zs_geti (r := 1074) (pc := 41) C dX9_goesBy_41 w_X9_148 f_10_74 rfl (r_1074 0) (fun v41 e41 l41 u41 => ?_)
                refine zs_iconst (pc := 44) C dX9_goesBy_44 (by decide) ?_
                refine zs_icmp_ne (tgt := 57) (pc := 45) C dX9_goesBy_45 (by decide) (fun h45 => ?_) (fun h45 => ?_)
                · skip
                  refine zs_aload_n (pc := 57) C dX9_goesBy_57 rfl ?_
                  refine zs_geti (r := 1074) (pc := 58) C dX9_goesBy_58 w_X9_148 f_10_74 rfl (r_1074 0) (fun v58 e58 l58 u58 => ?_)
                  refine zs_iconst (pc := 61) C dX9_goesBy_61 (by decide) ?_
                  refine zs_icmp_ne (tgt := 77) (pc := 62) C dX9_goesBy_62 (by decide) (fun h62 => ?_) (fun h62 => ?_)
                  · skip
                    refine zs_aload_n (pc := 77) C dX9_goesBy_77 rfl ?_
                    refine zs_iload_n (pc := 78) C dX9_goesBy_78 rfl ?_
                    refine zs_iload (pc := 79) C dX9_goesBy_79 rfl ?_
                    refine zs_iload (pc := 81) C dX9_goesBy_81 rfl ?_
                    refine zVj3 (pc := 83) C dX9_goesBy_83 v_X9_485 (c_X9_wantOf hX (by repeat (first | assumption | refine MI_I (by decide) ?_ | refine MI_J ?_ | refine MI_sm (by assumption) (by decide) ?_ | refine MI_sn (by assumption) (by decide) ?_)) (by omega) (by omega) (by omega)) (by decide) (by decide) ⟨Nat.zero_le _, Nat.zero_le _⟩ (Nat.le_of_ble_eq_true rfl) (fun x83 G83 l83 u83 hp83 => ?_)
                    obtain ⟨hz83, hq83⟩ := hp83
                    refine zs_lstore (pc := 86) C dX9_goesBy_86 (by decide) ?_
                    dsimp only [zset, zclr, znone]
                    refine zs_lload (pc := 88) C dX9_goesBy_88 rfl ?_
                    refine zs_lload_n (pc := 90) C dX9_goesBy_90 rfl ?_
                    refine zs_lcmp (pc := 91) C dX9_goesBy_91 (fun z91 hz91 => ?_)
                    refine zs_if_gt (tgt := 98) (pc := 92) C dX9_goesBy_92 (by decide) (fun h92 => ?_) (fun h92 => ?_)
                    · skip
                      refine zs_iconst (pc := 98) C dX9_goesBy_98 (by decide) ?_
                      refine zs_iload (pc := 99) C dX9_goesBy_99 rfl ?_
                      first | refine zs_imul (pc := 101) C dX9_goesBy_101 (by omega) ?_ | refine zs_imulF (pc := 101) C dX9_goesBy_101 (fun z101 hz1011 hz1012 => ?_)
                      refine zs_iload (pc := 102) C dX9_goesBy_102 rfl ?_
                      first | refine zs_iadd (pc := 104) C dX9_goesBy_104 (by omega) ?_ | refine zs_iaddF (pc := 104) C dX9_goesBy_104 (fun z104 hz1041 hz1042 => ?_)
                      refine zs_istore_n (pc := 105) C dX9_goesBy_105 (by decide) ?_
                      dsimp only [zset, zclr, znone]
                      refine zs_lload (pc := 106) C dX9_goesBy_106 rfl ?_
                      refine zs_lstore_n (pc := 108) C dX9_goesBy_108 (by decide) ?_
                      dsimp only [zset, zclr, znone]
                      exact zs_wk (J109 _ _ _ (by first | omega | (simp only [zuI_1, zuI_2, zuJ_1, zuJ_2, zuJ_3, zuP_1, zuP_2, zuP_3, zuC_1, zuC_2, reduceIte, Nat.reduceEqDiff, false_and, and_false, true_and, and_true, and_self, or_true, true_or, or_false, false_or]; omega)) (by repeat (first | exact zsm_rf | assumption | refine zsm_C (by decide) ?_ | refine zsm_I (by decide) ?_ | refine zsm_J ?_ | refine zsm_c (by assumption) (by decide) ?_))) (zwk_s rfl (zwk_s rfl (zwk_s rfl (zwk_s rfl (zwk_n (zwk_s rfl (zwk_s rfl (zwk_n (zwk_n zwk_0)))))))))
                    · skip
                      refine zs_goto (tgt := 109) (pc := 95) C dX9_goesBy_95 (by decide) ?_
                      exact zs_wk (J109 _ _ _ (by first | omega | (simp only [zuI_1, zuI_2, zuJ_1, zuJ_2, zuJ_3, zuP_1, zuP_2, zuP_3, zuC_1, zuC_2, reduceIte, Nat.reduceEqDiff, false_and, and_false, true_and, and_true, and_self, or_true, true_or, or_false, false_or]; omega)) (by repeat (first | exact zsm_rf | assumption | refine zsm_C (by decide) ?_ | refine zsm_I (by decide) ?_ | refine zsm_J ?_ | refine zsm_c (by assumption) (by decide) ?_))) (zwk_s rfl (zwk_s rfl (zwk_s rfl (zwk_s rfl (zwk_n (zwk_s rfl (zwk_s rfl (zwk_n (zwk_n zwk_0)))))))))
                  · skip
                    refine zs_aload_n (pc := 65) C dX9_goesBy_65 rfl ?_
                    refine zs_geti (r := 1075) (pc := 66) C dX9_goesBy_66 w_X9_482 f_10_75 rfl (r_1075 0) (fun v66 e66 l66 u66 => ?_)
                    refine zs_iload (pc := 69) C dX9_goesBy_69 rfl ?_
                    refine zs_icmp_ne (tgt := 77) (pc := 71) C dX9_goesBy_71 (by decide) (fun h71 => ?_) (fun h71 => ?_)
                    · skip
                      refine zs_aload_n (pc := 77) C dX9_goesBy_77 rfl ?_
                      refine zs_iload_n (pc := 78) C dX9_goesBy_78 rfl ?_
                      refine zs_iload (pc := 79) C dX9_goesBy_79 rfl ?_
                      refine zs_iload (pc := 81) C dX9_goesBy_81 rfl ?_
                      refine zVj3 (pc := 83) C dX9_goesBy_83 v_X9_485 (c_X9_wantOf hX (by repeat (first | assumption | refine MI_I (by decide) ?_ | refine MI_J ?_ | refine MI_sm (by assumption) (by decide) ?_ | refine MI_sn (by assumption) (by decide) ?_)) (by omega) (by omega) (by omega)) (by decide) (by decide) ⟨Nat.zero_le _, Nat.zero_le _⟩ (Nat.le_of_ble_eq_true rfl) (fun x83 G83 l83 u83 hp83 => ?_)
                      obtain ⟨hz83, hq83⟩ := hp83
                      refine zs_lstore (pc := 86) C dX9_goesBy_86 (by decide) ?_
                      dsimp only [zset, zclr, znone]
                      refine zs_lload (pc := 88) C dX9_goesBy_88 rfl ?_
                      refine zs_lload_n (pc := 90) C dX9_goesBy_90 rfl ?_
                      refine zs_lcmp (pc := 91) C dX9_goesBy_91 (fun z91 hz91 => ?_)
                      refine zs_if_gt (tgt := 98) (pc := 92) C dX9_goesBy_92 (by decide) (fun h92 => ?_) (fun h92 => ?_)
                      · skip
                        refine zs_iconst (pc := 98) C dX9_goesBy_98 (by decide) ?_
                        refine zs_iload (pc := 99) C dX9_goesBy_99 rfl ?_
                        first | refine zs_imul (pc := 101) C dX9_goesBy_101 (by omega) ?_ | refine zs_imulF (pc := 101) C dX9_goesBy_101 (fun z101 hz1011 hz1012 => ?_)
                        refine zs_iload (pc := 102) C dX9_goesBy_102 rfl ?_
                        first | refine zs_iadd (pc := 104) C dX9_goesBy_104 (by omega) ?_ | refine zs_iaddF (pc := 104) C dX9_goesBy_104 (fun z104 hz1041 hz1042 => ?_)
                        refine zs_istore_n (pc := 105) C dX9_goesBy_105 (by decide) ?_
                        dsimp only [zset, zclr, znone]
                        refine zs_lload (pc := 106) C dX9_goesBy_106 rfl ?_
                        refine zs_lstore_n (pc := 108) C dX9_goesBy_108 (by decide) ?_
                        dsimp only [zset, zclr, znone]
                        exact zs_wk (J109 _ _ _ (by first | omega | (simp only [zuI_1, zuI_2, zuJ_1, zuJ_2, zuJ_3, zuP_1, zuP_2, zuP_3, zuC_1, zuC_2, reduceIte, Nat.reduceEqDiff, false_and, and_false, true_and, and_true, and_self, or_true, true_or, or_false, false_or]; omega)) (by repeat (first | exact zsm_rf | assumption | refine zsm_C (by decide) ?_ | refine zsm_I (by decide) ?_ | refine zsm_J ?_ | refine zsm_c (by assumption) (by decide) ?_))) (zwk_s rfl (zwk_s rfl (zwk_s rfl (zwk_s rfl (zwk_n (zwk_s rfl (zwk_s rfl (zwk_n (zwk_n zwk_0)))))))))
                      · skip
                        refine zs_goto (tgt := 109) (pc := 95) C dX9_goesBy_95 (by decide) ?_
                        exact zs_wk (J109 _ _ _ (by first | omega | (simp only [zuI_1, zuI_2, zuJ_1, zuJ_2, zuJ_3, zuP_1, zuP_2, zuP_3, zuC_1, zuC_2, reduceIte, Nat.reduceEqDiff, false_and, and_false, true_and, and_true, and_self, or_true, true_or, or_false, false_or]; omega)) (by repeat (first | exact zsm_rf | assumption | refine zsm_C (by decide) ?_ | refine zsm_I (by decide) ?_ | refine zsm_J ?_ | refine zsm_c (by assumption) (by decide) ?_))) (zwk_s rfl (zwk_s rfl (zwk_s rfl (zwk_s rfl (zwk_n (zwk_s rfl (zwk_s rfl (zwk_n (zwk_n zwk_0)))))))))
                    · skip
                      refine zs_goto (tgt := 109) (pc := 74) C dX9_goesBy_74 (by decide) ?_
                      exact zs_wk (J109 _ _ _ (by first | omega | (simp only [zuI_1, zuI_2, zuJ_1, zuJ_2, zuJ_3, zuP_1, zuP_2, zuP_3, zuC_1, zuC_2, reduceIte, Nat.reduceEqDiff, false_and, and_false, true_and, and_true, and_self, or_true, true_or, or_false, false_or]; omega)) (by repeat (first | exact zsm_rf | assumption | refine zsm_C (by decide) ?_ | refine zsm_I (by decide) ?_ | refine zsm_J ?_ | refine zsm_c (by assumption) (by decide) ?_))) (zwk_s rfl (zwk_s rfl (zwk_s rfl (zwk_s rfl (zwk_n (zwk_s rfl (zwk_s rfl (zwk_n (zwk_n zwk_0)))))))))
                · skip
                  refine zs_aload_n (pc := 48) C dX9_goesBy_48 rfl ?_
                  refine zs_geti (r := 1075) (pc := 49) C dX9_goesBy_49 w_X9_482 f_10_75 rfl (r_1075 0) (fun v49 e49 l49 u49 => ?_)
                  refine zs_iload (pc := 52) C dX9_goesBy_52 rfl ?_
                  refine zs_icmp_eq (tgt := 109) (pc := 54) C dX9_goesBy_54 (by decide) (fun h54 => ?_) (fun h54 => ?_)
                  · skip
                    exact zs_wk (J109 _ _ _ (by first | omega | (simp only [zuI_1, zuI_2, zuJ_1, zuJ_2, zuJ_3, zuP_1, zuP_2, zuP_3, zuC_1, zuC_2, reduceIte, Nat.reduceEqDiff, false_and, and_false, true_and, and_true, and_self, or_true, true_or, or_false, false_or]; omega)) (by repeat (first | exact zsm_rf | assumption | refine zsm_C (by decide) ?_ | refine zsm_I (by decide) ?_ | refine zsm_J ?_ | refine zsm_c (by assumption) (by decide) ?_))) (zwk_s rfl (zwk_s rfl (zwk_s rfl (zwk_s rfl (zwk_n (zwk_s rfl (zwk_s rfl (zwk_n (zwk_n zwk_0)))))))))
                  · skip
                    refine zs_aload_n (pc := 57) C dX9_goesBy_57 rfl ?_
                    refine zs_geti (r := 1074) (pc := 58) C dX9_goesBy_58 w_X9_148 f_10_74 rfl (r_1074 0) (fun v58 e58 l58 u58 => ?_)
                    refine zs_iconst (pc := 61) C dX9_goesBy_61 (by decide) ?_
                    refine zs_icmp_ne (tgt := 77) (pc := 62) C dX9_goesBy_62 (by decide) (fun h62 => ?_) (fun h62 => ?_)
                    · skip
                      refine zs_aload_n (pc := 77) C dX9_goesBy_77 rfl ?_
                      refine zs_iload_n (pc := 78) C dX9_goesBy_78 rfl ?_
                      refine zs_iload (pc := 79) C dX9_goesBy_79 rfl ?_
                      refine zs_iload (pc := 81) C dX9_goesBy_81 rfl ?_
                      refine zVj3 (pc := 83) C dX9_goesBy_83 v_X9_485 (c_X9_wantOf hX (by repeat (first | assumption | refine MI_I (by decide) ?_ | refine MI_J ?_ | refine MI_sm (by assumption) (by decide) ?_ | refine MI_sn (by assumption) (by decide) ?_)) (by omega) (by omega) (by omega)) (by decide) (by decide) ⟨Nat.zero_le _, Nat.zero_le _⟩ (Nat.le_of_ble_eq_true rfl) (fun x83 G83 l83 u83 hp83 => ?_)
                      obtain ⟨hz83, hq83⟩ := hp83
                      refine zs_lstore (pc := 86) C dX9_goesBy_86 (by decide) ?_
                      dsimp only [zset, zclr, znone]
                      refine zs_lload (pc := 88) C dX9_goesBy_88 rfl ?_
                      refine zs_lload_n (pc := 90) C dX9_goesBy_90 rfl ?_
                      refine zs_lcmp (pc := 91) C dX9_goesBy_91 (fun z91 hz91 => ?_)
                      refine zs_if_gt (tgt := 98) (pc := 92) C dX9_goesBy_92 (by decide) (fun h92 => ?_) (fun h92 => ?_)
                      · skip
                        refine zs_iconst (pc := 98) C dX9_goesBy_98 (by decide) ?_
                        refine zs_iload (pc := 99) C dX9_goesBy_99 rfl ?_
                        first | refine zs_imul (pc := 101) C dX9_goesBy_101 (by omega) ?_ | refine zs_imulF (pc := 101) C dX9_goesBy_101 (fun z101 hz1011 hz1012 => ?_)
                        refine zs_iload (pc := 102) C dX9_goesBy_102 rfl ?_
                        first | refine zs_iadd (pc := 104) C dX9_goesBy_104 (by omega) ?_ | refine zs_iaddF (pc := 104) C dX9_goesBy_104 (fun z104 hz1041 hz1042 => ?_)
                        refine zs_istore_n (pc := 105) C dX9_goesBy_105 (by decide) ?_
                        dsimp only [zset, zclr, znone]
                        refine zs_lload (pc := 106) C dX9_goesBy_106 rfl ?_
                        refine zs_lstore_n (pc := 108) C dX9_goesBy_108 (by decide) ?_
                        dsimp only [zset, zclr, znone]
                        exact zs_wk (J109 _ _ _ (by first | omega | (simp only [zuI_1, zuI_2, zuJ_1, zuJ_2, zuJ_3, zuP_1, zuP_2, zuP_3, zuC_1, zuC_2, reduceIte, Nat.reduceEqDiff, false_and, and_false, true_and, and_true, and_self, or_true, true_or, or_false, false_or]; omega)) (by repeat (first | exact zsm_rf | assumption | refine zsm_C (by decide) ?_ | refine zsm_I (by decide) ?_ | refine zsm_J ?_ | refine zsm_c (by assumption) (by decide) ?_))) (zwk_s rfl (zwk_s rfl (zwk_s rfl (zwk_s rfl (zwk_n (zwk_s rfl (zwk_s rfl (zwk_n (zwk_n zwk_0)))))))))
                      · skip
                        refine zs_goto (tgt := 109) (pc := 95) C dX9_goesBy_95 (by decide) ?_
                        exact zs_wk (J109 _ _ _ (by first | omega | (simp only [zuI_1, zuI_2, zuJ_1, zuJ_2, zuJ_3, zuP_1, zuP_2, zuP_3, zuC_1, zuC_2, reduceIte, Nat.reduceEqDiff, false_and, and_false, true_and, and_true, and_self, or_true, true_or, or_false, false_or]; omega)) (by repeat (first | exact zsm_rf | assumption | refine zsm_C (by decide) ?_ | refine zsm_I (by decide) ?_ | refine zsm_J ?_ | refine zsm_c (by assumption) (by decide) ?_))) (zwk_s rfl (zwk_s rfl (zwk_s rfl (zwk_s rfl (zwk_n (zwk_s rfl (zwk_s rfl (zwk_n (zwk_n zwk_0)))))))))
                    · skip
                      refine zs_aload_n (pc := 65) C dX9_goesBy_65 rfl ?_
                      refine zs_geti (r := 1075) (pc := 66) C dX9_goesBy_66 w_X9_482 f_10_75 rfl (r_1075 0) (fun v66 e66 l66 u66 => ?_)
                      refine zs_iload (pc := 69) C dX9_goesBy_69 rfl ?_
                      refine zs_icmp_ne (tgt := 77) (pc := 71) C dX9_goesBy_71 (by decide) (fun h71 => ?_) (fun h71 => ?_)
                      · skip
                        refine zs_aload_n (pc := 77) C dX9_goesBy_77 rfl ?_
                        refine zs_iload_n (pc := 78) C dX9_goesBy_78 rfl ?_
                        refine zs_iload (pc := 79) C dX9_goesBy_79 rfl ?_
                        refine zs_iload (pc := 81) C dX9_goesBy_81 rfl ?_
                        refine zVj3 (pc := 83) C dX9_goesBy_83 v_X9_485 (c_X9_wantOf hX (by repeat (first | assumption | refine MI_I (by decide) ?_ | refine MI_J ?_ | refine MI_sm (by assumption) (by decide) ?_ | refine MI_sn (by assumption) (by decide) ?_)) (by omega) (by omega) (by omega)) (by decide) (by decide) ⟨Nat.zero_le _, Nat.zero_le _⟩ (Nat.le_of_ble_eq_true rfl) (fun x83 G83 l83 u83 hp83 => ?_)
                        obtain ⟨hz83, hq83⟩ := hp83
                        refine zs_lstore (pc := 86) C dX9_goesBy_86 (by decide) ?_
                        dsimp only [zset, zclr, znone]
                        refine zs_lload (pc := 88) C dX9_goesBy_88 rfl ?_
                        refine zs_lload_n (pc := 90) C dX9_goesBy_90 rfl ?_
                        refine zs_lcmp (pc := 91) C dX9_goesBy_91 (fun z91 hz91 => ?_)
                        refine zs_if_gt (tgt := 98) (pc := 92) C dX9_goesBy_92 (by decide) (fun h92 => ?_) (fun h92 => ?_)
                        · skip
                          refine zs_iconst (pc := 98) C dX9_goesBy_98 (by decide) ?_
                          refine zs_iload (pc := 99) C dX9_goesBy_99 rfl ?_
                          first | refine zs_imul (pc := 101) C dX9_goesBy_101 (by omega) ?_ | refine zs_imulF (pc := 101) C dX9_goesBy_101 (fun z101 hz1011 hz1012 => ?_)
                          refine zs_iload (pc := 102) C dX9_goesBy_102 rfl ?_
                          first | refine zs_iadd (pc := 104) C dX9_goesBy_104 (by omega) ?_ | refine zs_iaddF (pc := 104) C dX9_goesBy_104 (fun z104 hz1041 hz1042 => ?_)
                          refine zs_istore_n (pc := 105) C dX9_goesBy_105 (by decide) ?_
                          dsimp only [zset, zclr, znone]
                          refine zs_lload (pc := 106) C dX9_goesBy_106 rfl ?_
                          refine zs_lstore_n (pc := 108) C dX9_goesBy_108 (by decide) ?_
                          dsimp only [zset, zclr, znone]
                          exact zs_wk (J109 _ _ _ (by first | omega | (simp only [zuI_1, zuI_2, zuJ_1, zuJ_2, zuJ_3, zuP_1, zuP_2, zuP_3, zuC_1, zuC_2, reduceIte, Nat.reduceEqDiff, false_and, and_false, true_and, and_true, and_self, or_true, true_or, or_false, false_or]; omega)) (by repeat (first | exact zsm_rf | assumption | refine zsm_C (by decide) ?_ | refine zsm_I (by decide) ?_ | refine zsm_J ?_ | refine zsm_c (by assumption) (by decide) ?_))) (zwk_s rfl (zwk_s rfl (zwk_s rfl (zwk_s rfl (zwk_n (zwk_s rfl (zwk_s rfl (zwk_n (zwk_n zwk_0)))))))))
                        · skip
                          refine zs_goto (tgt := 109) (pc := 95) C dX9_goesBy_95 (by decide) ?_
                          exact zs_wk (J109 _ _ _ (by first | omega | (simp only [zuI_1, zuI_2, zuJ_1, zuJ_2, zuJ_3, zuP_1, zuP_2, zuP_3, zuC_1, zuC_2, reduceIte, Nat.reduceEqDiff, false_and, and_false, true_and, and_true, and_self, or_true, true_or, or_false, false_or]; omega)) (by repeat (first | exact zsm_rf | assumption | refine zsm_C (by decide) ?_ | refine zsm_I (by decide) ?_ | refine zsm_J ?_ | refine zsm_c (by assumption) (by decide) ?_))) (zwk_s rfl (zwk_s rfl (zwk_s rfl (zwk_s rfl (zwk_n (zwk_s rfl (zwk_s rfl (zwk_n (zwk_n zwk_0)))))))))
                      · skip
                        refine zs_goto (tgt := 109) (pc := 74) C dX9_goesBy_74 (by decide) ?_
                        exact zs_wk (J109 _ _ _ (by first | omega | (simp only [zuI_1, zuI_2, zuJ_1, zuJ_2, zuJ_3, zuP_1, zuP_2, zuP_3, zuC_1, zuC_2, reduceIte, Nat.reduceEqDiff, false_and, and_false, true_and, and_true, and_self, or_true, true_or, or_false, false_or]; omega)) (by repeat (first | exact zsm_rf | assumption | refine zsm_C (by decide) ?_ | refine zsm_I (by decide) ?_ | refine zsm_J ?_ | refine zsm_c (by assumption) (by decide) ?_))) (zwk_s rfl (zwk_s rfl (zwk_s rfl (zwk_s rfl (zwk_n (zwk_s rfl (zwk_s rfl (zwk_n (zwk_n zwk_0)))))))))
        exact zs_wk (L19 _ _ _ _ _ (by first | omega | (simp only [zuI_1, zuI_2, zuJ_1, zuJ_2, zuJ_3, zuP_1, zuP_2, zuP_3, zuC_1, zuC_2, reduceIte, Nat.reduceEqDiff, false_and, and_false, true_and, and_true, and_self, or_true, true_or, or_false, false_or]; omega)) (by first | omega | (simp only [zuI_1, zuI_2, zuJ_1, zuJ_2, zuJ_3, zuP_1, zuP_2, zuP_3, zuC_1, zuC_2, reduceIte, Nat.reduceEqDiff, false_and, and_false, true_and, and_true, and_self, or_true, true_or, or_false, false_or]; omega)) (by repeat (first | exact zsm_rf | assumption | refine zsm_C (by decide) ?_ | refine zsm_I (by decide) ?_ | refine zsm_J ?_ | refine zsm_c (by assumption) (by decide) ?_)) (Nat.lt_succ_self _)) (zwk_s rfl (zwk_s rfl (zwk_s rfl (zwk_s rfl (zwk_n (zwk_s rfl (zwk_s rfl (zwk_n (zwk_n zwk_0)))))))))
  exact zs_wk (L7 _ _ _ _ _ (by first | omega | (simp only [zuI_1, zuI_2, zuJ_1, zuJ_2, zuJ_3, zuP_1, zuP_2, zuP_3, zuC_1, zuC_2, reduceIte, Nat.reduceEqDiff, false_and, and_false, true_and, and_true, and_self, or_true, true_or, or_false, false_or]; omega)) (by first | omega | (simp only [zuI_1, zuI_2, zuJ_1, zuJ_2, zuJ_3, zuP_1, zuP_2, zuP_3, zuC_1, zuC_2, reduceIte, Nat.reduceEqDiff, false_and, and_false, true_and, and_true, and_self, or_true, true_or, or_false, false_or]; omega)) (by repeat (first | exact zsm_rf | assumption | refine zsm_C (by decide) ?_ | refine zsm_I (by decide) ?_ | refine zsm_J ?_ | refine zsm_c (by assumption) (by decide) ?_)) (Nat.lt_succ_self _)) (zwk_s rfl (zwk_s rfl (zwk_s rfl (zwk_s rfl (zwk_n (zwk_s rfl (zwk_n (zwk_n (zwk_n zwk_0)))))))))

set_option maxHeartbeats 4000000 in
set_option maxRecDepth 100000 in
theorem c_X9_daysD {l : Launch} {Γ : zΓ} {G : zH} {w : Nat} {a : Int} (hX : zXs Γ) (hM : MI Γ w G)(hd : 0 ≤ G.1 2090 (Γ.2.1 w 60) (0 : Int).toNat ∧ G.1 2090 (Γ.2.1 w 60) (0 : Int).toNat ≤ 100) : zMet l Γ yX9_days cX9_days 3 (some .int) 7 [zr 10 w, zi a] G (zpi (fun x G' => zsm [1050, 2091, 2092, 2093, 2094, 2095, 2096, 2097, 2098, 2099, 2100, 2088, 2087, 2082, 2084, 2083, 2089, 2086, 1073, 2090, 1074, 1002, 1084] G G' ∧ ((0 ≤ a ∧ G.1 2090 (Γ.2.1 w 60) (0 : Int).toNat + a ≤ 100 → x = G.1 2090 (Γ.2.1 w 60) (0 : Int).toNat + a ∧ G'.1 2090 (Γ.2.1 w 60) (0 : Int).toNat = G.1 2090 (Γ.2.1 w 60) (0 : Int).toNat + a ∧ (0 < a → G'.1 1084 w 0 = 0) ∧ (a ≤ 0 → G'.1 1084 w 0 = G.1 1084 w 0)) ∧ (¬ (0 ≤ a ∧ G.1 2090 (Γ.2.1 w 60) (0 : Int).toNat + a ≤ 100) → x = -1 ∧ G'.1 2090 (Γ.2.1 w 60) (0 : Int).toNat = G.1 2090 (Γ.2.1 w 60) (0 : Int).toNat ∧ G'.1 1084 w 0 = G.1 1084 w 0)))) := by
  refine zMet_of RX9 hX (by decide) rfl (Nat.le_of_ble_eq_true rfl) ?_
  intro p e s m args below meth c C hr hlk
  show Z p l e (zrm 7) s m args below meth c Γ 3 0 0 (MQ below (zQc Γ (zpi (fun x G' => zsm [1050, 2091, 2092, 2093, 2094, 2095, 2096, 2097, 2098, 2099, 2100, 2088, 2087, 2082, 2084, 2083, 2089, 2086, 1073, 2090, 1074, 1002, 1084] G G' ∧ ((0 ≤ a ∧ G.1 2090 (Γ.2.1 w 60) (0 : Int).toNat + a ≤ 100 → x = G.1 2090 (Γ.2.1 w 60) (0 : Int).toNat + a ∧ G'.1 2090 (Γ.2.1 w 60) (0 : Int).toNat = G.1 2090 (Γ.2.1 w 60) (0 : Int).toNat + a ∧ (0 < a → G'.1 1084 w 0 = 0) ∧ (a ≤ 0 → G'.1 1084 w 0 = G.1 1084 w 0)) ∧ (¬ (0 ≤ a ∧ G.1 2090 (Γ.2.1 w 60) (0 : Int).toNat + a ≤ 100) → x = -1 ∧ G'.1 2090 (Γ.2.1 w 60) (0 : Int).toNat = G.1 2090 (Γ.2.1 w 60) (0 : Int).toNat ∧ G'.1 1084 w 0 = G.1 1084 w 0))))) args s 0 0 (zA Γ)) 0 [some (zr 10 w), some (zi a), none] [] G
  refine zs_loc 1 rfl (fun ha1 hb1 => ?_)
  refine zs_aload_n (pc := 0) C dX9_days_0 rfl ?_
  refine zs_iconst (pc := 1) C dX9_days_1 (by decide) ?_
  refine zs_puti (r := 1002) (pc := 2) C dX9_days_2 w_X9_178 f_10_2 rfl (r_1002 0) (by omega) ?_
  refine zs_iload_n (pc := 5) C dX9_days_5 rfl ?_
  refine zs_iconst (pc := 6) C dX9_days_6 (by decide) ?_
  refine zs_bipush (pc := 7) C dX9_days_7 (by decide) (by decide) ?_
  refine zSip3 (pc := 9) C dX9_days_9 s_X9_223 (c_X9_isIn hX ) (by decide) ⟨Nat.zero_le _, Nat.zero_le _⟩ (Nat.le_of_ble_eq_true rfl) (fun x9 l9 u9 hp9 => ?_)
  have hq9 := hp9
  try simp only [zuI_1, zuI_2, zuJ_1, zuJ_2, zuJ_3, zuP_1, zuP_2, zuP_3, zuC_1, zuC_2, reduceIte, Nat.reduceEqDiff, false_and, and_false, true_and, and_true, and_self, or_true, true_or, or_false, false_or] at hq9
  refine zs_if_eq (tgt := 28) (pc := 12) C dX9_days_12 (by decide) (fun h12 => ?_) (fun h12 => ?_)
  · skip
    refine zs_iconst (pc := 28) C dX9_days_28 (by decide) ?_
    exact zs_iret (pc := 29) C hr hlk dX9_days_29 ⟨by repeat (first | exact zsm_rf | assumption | refine zsm_C (by decide) ?_ | refine zsm_I (by decide) ?_ | refine zsm_J ?_ | refine zsm_c (by assumption) (by decide) ?_), (by refine ⟨fun h1 => ?_, fun h1 => ?_⟩ <;> first | (exfalso; omega) | (refine ⟨?_, ?_, fun h2 => ?_, fun h2 => ?_⟩ <;> (first | omega | (exfalso; omega) | (simp only [zuI_1, zuI_2, zuJ_1, zuJ_2, zuJ_3, zuP_1, zuP_2, zuP_3, zuC_1, zuC_2, reduceIte, Nat.reduceEqDiff, false_and, and_false, true_and, and_true, and_self, or_true, true_or, or_false, false_or]; done) | (simp only [zuI_1, zuI_2, zuJ_1, zuJ_2, zuJ_3, zuP_1, zuP_2, zuP_3, zuC_1, zuC_2, reduceIte, Nat.reduceEqDiff, false_and, and_false, true_and, and_true, and_self, or_true, true_or, or_false, false_or]; omega))) | (refine ⟨?_, ?_, ?_⟩ <;> (first | omega | (exfalso; omega) | (simp only [zuI_1, zuI_2, zuJ_1, zuJ_2, zuJ_3, zuP_1, zuP_2, zuP_3, zuC_1, zuC_2, reduceIte, Nat.reduceEqDiff, false_and, and_false, true_and, and_true, and_self, or_true, true_or, or_false, false_or]; done) | (simp only [zuI_1, zuI_2, zuJ_1, zuJ_2, zuJ_3, zuP_1, zuP_2, zuP_3, zuC_1, zuC_2, reduceIte, Nat.reduceEqDiff, false_and, and_false, true_and, and_true, and_self, or_true, true_or, or_false, false_or]; omega))))⟩
  · skip
    refine zs_aload_n (pc := 15) C dX9_days_15 rfl ?_
    refine zs_getf (pc := 16) C dX9_days_16 w_X9_115 f_10_60 (by decide) ?_
    refine zs_iconst (pc := 19) C dX9_days_19 (by decide) ?_
    refine zs_iald (r := 2090) (pc := 20) C dX9_days_20 a_90 (by decide) (by omega) rfl (r_2090 _) (fun v20 e20 l20 u20 => ?_)
    try simp only [zuI_1, zuI_2, zuJ_1, zuJ_2, zuJ_3, zuP_1, zuP_2, zuP_3, zuC_1, zuC_2, reduceIte, Nat.reduceEqDiff, false_and, and_false, true_and, and_true, and_self, or_true, true_or, or_false, false_or] at e20
    refine zs_iload_n (pc := 21) C dX9_days_21 rfl ?_
    first | refine zs_iadd (pc := 22) C dX9_days_22 (by omega) ?_ | refine zs_iaddF (pc := 22) C dX9_days_22 (fun z22 hz221 hz222 => ?_)
    refine zs_bipush (pc := 23) C dX9_days_23 (by decide) (by decide) ?_
    refine zs_icmp_le (tgt := 30) (pc := 25) C dX9_days_25 (by decide) (fun h25 => ?_) (fun h25 => ?_)
    · skip
      refine zs_aload_n (pc := 30) C dX9_days_30 rfl ?_
      refine zs_iconst (pc := 31) C dX9_days_31 (by decide) ?_
      refine zs_puti (r := 1074) (pc := 32) C dX9_days_32 w_X9_148 f_10_74 rfl (r_1074 0) (by omega) ?_
      refine zs_iconst (pc := 35) C dX9_days_35 (by decide) ?_
      refine zs_istore_n (pc := 36) C dX9_days_36 (by decide) ?_
      dsimp only [zset, zclr, znone]
      have L37 : ∀ (nn : Nat) (x2 : Int) (G1 : zH), (0 ≤ x2 ∧ (x2 ≤ a ∨ x2 = 0)) → (zsm [1050, 2091, 2092, 2093, 2094, 2095, 2096, 2097, 2098, 2099, 2100, 2088, 2087, 2082, 2084, 2083, 2089, 2086, 1073, 2090, 1074, 1002] G G1) → (G1.1 2090 (Γ.2.1 w 60) (0 : Int).toNat = G.1 2090 (Γ.2.1 w 60) (0 : Int).toNat + x2) → (a - x2).toNat < nn → Z p l e (zrm 7) s m args below meth c Γ 3 0 0 (MQ below (zQc Γ (zpi (fun x G' => zsm [1050, 2091, 2092, 2093, 2094, 2095, 2096, 2097, 2098, 2099, 2100, 2088, 2087, 2082, 2084, 2083, 2089, 2086, 1073, 2090, 1074, 1002, 1084] G G' ∧ ((0 ≤ a ∧ G.1 2090 (Γ.2.1 w 60) (0 : Int).toNat + a ≤ 100 → x = G.1 2090 (Γ.2.1 w 60) (0 : Int).toNat + a ∧ G'.1 2090 (Γ.2.1 w 60) (0 : Int).toNat = G.1 2090 (Γ.2.1 w 60) (0 : Int).toNat + a ∧ (0 < a → G'.1 1084 w 0 = 0) ∧ (a ≤ 0 → G'.1 1084 w 0 = G.1 1084 w 0)) ∧ (¬ (0 ≤ a ∧ G.1 2090 (Γ.2.1 w 60) (0 : Int).toNat + a ≤ 100) → x = -1 ∧ G'.1 2090 (Γ.2.1 w 60) (0 : Int).toNat = G.1 2090 (Γ.2.1 w 60) (0 : Int).toNat ∧ G'.1 1084 w 0 = G.1 1084 w 0))))) args s 0 0 (zA Γ)) 37 [some (zr 10 w), some (zi a), some (zi x2)] [] G1 := by
        intro nn
        induction nn with
        | zero => intro x2 G1 h37_0 h37_1 h37_2 hm; exact absurd hm (Nat.not_lt_zero _)
        | succ nn ih37 =>
          intro x2 G1 h37_0 h37_1 h37_2 hm37
          refine zs_iload_n (pc := 37) C dX9_days_37 rfl ?_
          refine zs_iload_n (pc := 38) C dX9_days_38 rfl ?_
          refine zs_icmp_ge (tgt := 53) (pc := 39) C dX9_days_39 (by decide) (fun h39 => ?_) (fun h39 => ?_)
          · skip
            have t84 := zsm_at h37_1 1084 w 0 (by decide)
            refine zs_aload_n (pc := 53) C dX9_days_53 rfl ?_
            refine zs_iload_n (pc := 54) C dX9_days_54 rfl ?_
            refine zs_if_le (tgt := 62) (pc := 55) C dX9_days_55 (by decide) (fun h55 => ?_) (fun h55 => ?_)
            · skip
              refine zs_aload_n (pc := 62) C dX9_days_62 rfl ?_
              refine zs_geti (r := 1084) (pc := 63) C dX9_days_63 w_X9_382 f_10_84 rfl (r_1084 0) (fun v63 e63 l63 u63 => ?_)
              refine zs_puti (r := 1084) (pc := 66) C dX9_days_66 w_X9_382 f_10_84 rfl (r_1084 0) (by omega) ?_
              refine zs_aload_n (pc := 69) C dX9_days_69 rfl ?_
              refine zs_getf (pc := 70) C dX9_days_70 w_X9_115 f_10_60 (by decide) ?_
              refine zs_iconst (pc := 73) C dX9_days_73 (by decide) ?_
              refine zs_iald (r := 2090) (pc := 74) C dX9_days_74 a_90 (by decide) (by omega) rfl (r_2090 _) (fun v74 e74 l74 u74 => ?_)
              try simp only [zuI_1, zuI_2, zuJ_1, zuJ_2, zuJ_3, zuP_1, zuP_2, zuP_3, zuC_1, zuC_2, reduceIte, Nat.reduceEqDiff, false_and, and_false, true_and, and_true, and_self, or_true, true_or, or_false, false_or] at e74
              exact zs_iret (pc := 75) C hr hlk dX9_days_75 ⟨by repeat (first | exact zsm_rf | assumption | refine zsm_C (by decide) ?_ | refine zsm_I (by decide) ?_ | refine zsm_J ?_ | refine zsm_c (by assumption) (by decide) ?_), (by refine ⟨fun h1 => ?_, fun h1 => ?_⟩ <;> first | (exfalso; omega) | (refine ⟨?_, ?_, fun h2 => ?_, fun h2 => ?_⟩ <;> (first | omega | (exfalso; omega) | (simp only [zuI_1, zuI_2, zuJ_1, zuJ_2, zuJ_3, zuP_1, zuP_2, zuP_3, zuC_1, zuC_2, reduceIte, Nat.reduceEqDiff, false_and, and_false, true_and, and_true, and_self, or_true, true_or, or_false, false_or]; done) | (simp only [zuI_1, zuI_2, zuJ_1, zuJ_2, zuJ_3, zuP_1, zuP_2, zuP_3, zuC_1, zuC_2, reduceIte, Nat.reduceEqDiff, false_and, and_false, true_and, and_true, and_self, or_true, true_or, or_false, false_or]; omega))) | (refine ⟨?_, ?_, ?_⟩ <;> (first | omega | (exfalso; omega) | (simp only [zuI_1, zuI_2, zuJ_1, zuJ_2, zuJ_3, zuP_1, zuP_2, zuP_3, zuC_1, zuC_2, reduceIte, Nat.reduceEqDiff, false_and, and_false, true_and, and_true, and_self, or_true, true_or, or_false, false_or]; done) | (simp only [zuI_1, zuI_2, zuJ_1, zuJ_2, zuJ_3, zuP_1, zuP_2, zuP_3, zuC_1, zuC_2, reduceIte, Nat.reduceEqDiff, false_and, and_false, true_and, and_true, and_self, or_true, true_or, or_false, false_or]; omega))))⟩
            · skip
              refine zs_iconst (pc := 58) C dX9_days_58 (by decide) ?_
              refine zs_goto (tgt := 66) (pc := 59) C dX9_days_59 (by decide) ?_
              refine zs_puti (r := 1084) (pc := 66) C dX9_days_66 w_X9_382 f_10_84 rfl (r_1084 0) (by omega) ?_
              refine zs_aload_n (pc := 69) C dX9_days_69 rfl ?_
              refine zs_getf (pc := 70) C dX9_days_70 w_X9_115 f_10_60 (by decide) ?_
              refine zs_iconst (pc := 73) C dX9_days_73 (by decide) ?_
              refine zs_iald (r := 2090) (pc := 74) C dX9_days_74 a_90 (by decide) (by omega) rfl (r_2090 _) (fun v74 e74 l74 u74 => ?_)
              try simp only [zuI_1, zuI_2, zuJ_1, zuJ_2, zuJ_3, zuP_1, zuP_2, zuP_3, zuC_1, zuC_2, reduceIte, Nat.reduceEqDiff, false_and, and_false, true_and, and_true, and_self, or_true, true_or, or_false, false_or] at e74
              exact zs_iret (pc := 75) C hr hlk dX9_days_75 ⟨by repeat (first | exact zsm_rf | assumption | refine zsm_C (by decide) ?_ | refine zsm_I (by decide) ?_ | refine zsm_J ?_ | refine zsm_c (by assumption) (by decide) ?_), (by refine ⟨fun h1 => ?_, fun h1 => ?_⟩ <;> first | (exfalso; omega) | (refine ⟨?_, ?_, fun h2 => ?_, fun h2 => ?_⟩ <;> (first | omega | (exfalso; omega) | (simp only [zuI_1, zuI_2, zuJ_1, zuJ_2, zuJ_3, zuP_1, zuP_2, zuP_3, zuC_1, zuC_2, reduceIte, Nat.reduceEqDiff, false_and, and_false, true_and, and_true, and_self, or_true, true_or, or_false, false_or]; done) | (simp only [zuI_1, zuI_2, zuJ_1, zuJ_2, zuJ_3, zuP_1, zuP_2, zuP_3, zuC_1, zuC_2, reduceIte, Nat.reduceEqDiff, false_and, and_false, true_and, and_true, and_self, or_true, true_or, or_false, false_or]; omega))) | (refine ⟨?_, ?_, ?_⟩ <;> (first | omega | (exfalso; omega) | (simp only [zuI_1, zuI_2, zuJ_1, zuJ_2, zuJ_3, zuP_1, zuP_2, zuP_3, zuC_1, zuC_2, reduceIte, Nat.reduceEqDiff, false_and, and_false, true_and, and_true, and_self, or_true, true_or, or_false, false_or]; done) | (simp only [zuI_1, zuI_2, zuJ_1, zuJ_2, zuJ_3, zuP_1, zuP_2, zuP_3, zuC_1, zuC_2, reduceIte, Nat.reduceEqDiff, false_and, and_false, true_and, and_true, and_self, or_true, true_or, or_false, false_or]; omega))))⟩
          · skip
            refine zs_aload_n (pc := 42) C dX9_days_42 rfl ?_
            refine zs_iconst (pc := 43) C dX9_days_43 (by decide) ?_
            refine zVv1 (pc := 44) C dX9_days_44 v_X9_489 (c_X9_goesByD hX (by repeat (first | assumption | refine MI_I (by decide) ?_ | refine MI_J ?_ | refine MI_sm (by assumption) (by decide) ?_ | refine MI_sn (by assumption) (by decide) ?_)) (by omega) (by omega)) (by decide) (by decide) ⟨Nat.zero_le _, Nat.zero_le _⟩ (Nat.le_of_ble_eq_true rfl) (fun G44 hp44 => ?_)
            obtain ⟨hz44, hq44⟩ := hp44
            first | refine zs_iinc (pc := 47) C dX9_days_47 rfl (by decide) (by omega) ?_ | refine zs_iincF (pc := 47) C dX9_days_47 rfl (by decide) (fun z47 hz471 hz472 => ?_)
            dsimp only [zset, zclr, znone]
            refine zs_goto (tgt := 37) (pc := 50) C dX9_days_50 (by decide) ?_
            exact zs_wk (ih37 _ _ (by first | omega | (simp only [zuI_1, zuI_2, zuJ_1, zuJ_2, zuJ_3, zuP_1, zuP_2, zuP_3, zuC_1, zuC_2, reduceIte, Nat.reduceEqDiff, false_and, and_false, true_and, and_true, and_self, or_true, true_or, or_false, false_or]; omega)) (by repeat (first | exact zsm_rf | assumption | refine zsm_C (by decide) ?_ | refine zsm_I (by decide) ?_ | refine zsm_J ?_ | refine zsm_c (by assumption) (by decide) ?_)) (by first | omega | rfl | (simp only [zuI_1, zuI_2, zuJ_1, zuJ_2, zuJ_3, zuP_1, zuP_2, zuP_3, zuC_1, zuC_2, reduceIte, Nat.reduceEqDiff, false_and, and_false, true_and, and_true, and_self, or_true, true_or, or_false, false_or]; done) | (simp only [zuI_1, zuI_2, zuJ_1, zuJ_2, zuJ_3, zuP_1, zuP_2, zuP_3, zuC_1, zuC_2, reduceIte, Nat.reduceEqDiff, false_and, and_false, true_and, and_true, and_self, or_true, true_or, or_false, false_or]; omega)) (by first | omega | (simp only [zuI_1, zuI_2, zuJ_1, zuJ_2, zuJ_3, zuP_1, zuP_2, zuP_3, zuC_1, zuC_2, reduceIte, Nat.reduceEqDiff, false_and, and_false, true_and, and_true, and_self, or_true, true_or, or_false, false_or]; omega))) (zwk_s rfl (zwk_s rfl (zwk_s rfl zwk_0)))
      exact zs_wk (L37 _ _ _ (by first | omega | (simp only [zuI_1, zuI_2, zuJ_1, zuJ_2, zuJ_3, zuP_1, zuP_2, zuP_3, zuC_1, zuC_2, reduceIte, Nat.reduceEqDiff, false_and, and_false, true_and, and_true, and_self, or_true, true_or, or_false, false_or]; omega)) (by repeat (first | exact zsm_rf | assumption | refine zsm_C (by decide) ?_ | refine zsm_I (by decide) ?_ | refine zsm_J ?_ | refine zsm_c (by assumption) (by decide) ?_)) (by first | omega | rfl | (simp only [zuI_1, zuI_2, zuJ_1, zuJ_2, zuJ_3, zuP_1, zuP_2, zuP_3, zuC_1, zuC_2, reduceIte, Nat.reduceEqDiff, false_and, and_false, true_and, and_true, and_self, or_true, true_or, or_false, false_or]; done) | (simp only [zuI_1, zuI_2, zuJ_1, zuJ_2, zuJ_3, zuP_1, zuP_2, zuP_3, zuC_1, zuC_2, reduceIte, Nat.reduceEqDiff, false_and, and_false, true_and, and_true, and_self, or_true, true_or, or_false, false_or]; omega)) (Nat.lt_succ_self _)) (zwk_s rfl (zwk_s rfl (zwk_s rfl zwk_0)))
    · skip
      refine zs_iconst (pc := 28) C dX9_days_28 (by decide) ?_
      exact zs_iret (pc := 29) C hr hlk dX9_days_29 ⟨by repeat (first | exact zsm_rf | assumption | refine zsm_C (by decide) ?_ | refine zsm_I (by decide) ?_ | refine zsm_J ?_ | refine zsm_c (by assumption) (by decide) ?_), (by refine ⟨fun h1 => ?_, fun h1 => ?_⟩ <;> first | (exfalso; omega) | (refine ⟨?_, ?_, fun h2 => ?_, fun h2 => ?_⟩ <;> (first | omega | (exfalso; omega) | (simp only [zuI_1, zuI_2, zuJ_1, zuJ_2, zuJ_3, zuP_1, zuP_2, zuP_3, zuC_1, zuC_2, reduceIte, Nat.reduceEqDiff, false_and, and_false, true_and, and_true, and_self, or_true, true_or, or_false, false_or]; done) | (simp only [zuI_1, zuI_2, zuJ_1, zuJ_2, zuJ_3, zuP_1, zuP_2, zuP_3, zuC_1, zuC_2, reduceIte, Nat.reduceEqDiff, false_and, and_false, true_and, and_true, and_self, or_true, true_or, or_false, false_or]; omega))) | (refine ⟨?_, ?_, ?_⟩ <;> (first | omega | (exfalso; omega) | (simp only [zuI_1, zuI_2, zuJ_1, zuJ_2, zuJ_3, zuP_1, zuP_2, zuP_3, zuC_1, zuC_2, reduceIte, Nat.reduceEqDiff, false_and, and_false, true_and, and_true, and_self, or_true, true_or, or_false, false_or]; done) | (simp only [zuI_1, zuI_2, zuJ_1, zuJ_2, zuJ_3, zuP_1, zuP_2, zuP_3, zuC_1, zuC_2, reduceIte, Nat.reduceEqDiff, false_and, and_false, true_and, and_true, and_self, or_true, true_or, or_false, false_or]; omega))))⟩

set_option maxHeartbeats 4000000 in
set_option maxRecDepth 100000 in
theorem c_X9_putD5 {l : Launch} {Γ : zΓ} {G : zH} {w bb : Nat} {q : Int} (hX : zXs Γ) (hq : 0 ≤ q ∧ q ≤ 2413 ∧ q % 127 = 0) : zMet l Γ yX9_put cX9_put 4 none 0 [zr 10 w, zr 105 bb, zi q] G (zpv (fun G' => zsm [2105] G G' ∧ (G'.1 2105 bb (q + 123).toNat = G.1 2090 (Γ.2.1 w 60) (0 : Int).toNat ∧ ∀ j : Nat, ((j : Int) < q ∨ q + 127 ≤ (j : Int)) → G'.1 2105 bb j = G.1 2105 bb j))) := by
  refine zMet_of RX9 hX (by decide) rfl (Nat.le_of_ble_eq_true rfl) ?_
  intro p e s m args below meth c C hr hlk
  show Z p l e (zrm 0) s m args below meth c Γ 4 0 0 (MQ below (zQc Γ (zpv (fun G' => zsm [2105] G G' ∧ (G'.1 2105 bb (q + 123).toNat = G.1 2090 (Γ.2.1 w 60) (0 : Int).toNat ∧ ∀ j : Nat, ((j : Int) < q ∨ q + 127 ≤ (j : Int)) → G'.1 2105 bb j = G.1 2105 bb j)))) args s 0 0 (zA Γ)) 0 [some (zr 10 w), some (zr 105 bb), some (zi q), none] [] G
  refine zs_loc 2 rfl (fun ha2 hb2 => ?_)
  refine zs_iconst (pc := 0) C dX9_put_0 (by decide) ?_
  refine zs_istore_n (pc := 1) C dX9_put_1 (by decide) ?_
  dsimp only [zset, zclr, znone]
  have L2 : ∀ (nn : Nat) (x3 : Int) (G1 : zH), (0 ≤ x3 ∧ x3 ≤ 20) → (zsm [2105] G G1) → (∀ j : Nat, ((j : Int) < q ∨ q + 127 ≤ (j : Int)) → G1.1 2105 bb j = G.1 2105 bb j) → (20 - x3).toNat < nn → Z p l e (zrm 0) s m args below meth c Γ 4 0 0 (MQ below (zQc Γ (zpv (fun G' => zsm [2105] G G' ∧ (G'.1 2105 bb (q + 123).toNat = G.1 2090 (Γ.2.1 w 60) (0 : Int).toNat ∧ ∀ j : Nat, ((j : Int) < q ∨ q + 127 ≤ (j : Int)) → G'.1 2105 bb j = G.1 2105 bb j)))) args s 0 0 (zA Γ)) 2 [some (zr 10 w), some (zr 105 bb), some (zi q), some (zi x3)] [] G1 := by
    intro nn
    induction nn with
    | zero => intro x3 G1 h2_0 h2_1 h2_2 hm; exact absurd hm (Nat.not_lt_zero _)
    | succ nn ih2 =>
      intro x3 G1 h2_0 h2_1 h2_2 hm2
      refine zs_iload_n (pc := 2) C dX9_put_2 rfl ?_
      refine zs_bipush (pc := 3) C dX9_put_3 (by decide) (by decide) ?_
      refine zs_icmp_ge (tgt := 39) (pc := 5) C dX9_put_5 (by decide) (fun h5 => ?_) (fun h5 => ?_)
      · skip
        refine zs_iconst (pc := 39) C dX9_put_39 (by decide) ?_
        refine zs_istore_n (pc := 40) C dX9_put_40 (by decide) ?_
        dsimp only [zset, zclr, znone]
        have L41 : ∀ (nn : Nat) (x3 : Int) (G2 : zH), (0 ≤ x3 ∧ x3 ≤ 5) → (zsm [2105] G G2) → (∀ j : Nat, ((j : Int) < q ∨ q + 127 ≤ (j : Int)) → G2.1 2105 bb j = G.1 2105 bb j) → (5 - x3).toNat < nn → Z p l e (zrm 0) s m args below meth c Γ 4 0 0 (MQ below (zQc Γ (zpv (fun G' => zsm [2105] G G' ∧ (G'.1 2105 bb (q + 123).toNat = G.1 2090 (Γ.2.1 w 60) (0 : Int).toNat ∧ ∀ j : Nat, ((j : Int) < q ∨ q + 127 ≤ (j : Int)) → G'.1 2105 bb j = G.1 2105 bb j)))) args s 0 0 (zA Γ)) 41 [some (zr 10 w), some (zr 105 bb), some (zi q), some (zi x3)] [] G2 := by
          intro nn
          induction nn with
          | zero => intro x3 G2 h41_0 h41_1 h41_2 hm; exact absurd hm (Nat.not_lt_zero _)
          | succ nn ih41 =>
            intro x3 G2 h41_0 h41_1 h41_2 hm41
            refine zs_iload_n (pc := 41) C dX9_put_41 rfl ?_
            refine zs_iconst (pc := 42) C dX9_put_42 (by decide) ?_
            refine zs_icmp_ge (tgt := 108) (pc := 43) C dX9_put_43 (by decide) (fun h43 => ?_) (fun h43 => ?_)
            · skip
              refine zs_iconst (pc := 108) C dX9_put_108 (by decide) ?_
              refine zs_istore_n (pc := 109) C dX9_put_109 (by decide) ?_
              dsimp only [zset, zclr, znone]
              have L110 : ∀ (nn : Nat) (x3 : Int) (G3 : zH), (0 ≤ x3 ∧ x3 ≤ 60) → (zsm [2105] G G3) → (∀ j : Nat, ((j : Int) < q ∨ q + 127 ≤ (j : Int)) → G3.1 2105 bb j = G.1 2105 bb j) → (60 - x3).toNat < nn → Z p l e (zrm 0) s m args below meth c Γ 4 0 0 (MQ below (zQc Γ (zpv (fun G' => zsm [2105] G G' ∧ (G'.1 2105 bb (q + 123).toNat = G.1 2090 (Γ.2.1 w 60) (0 : Int).toNat ∧ ∀ j : Nat, ((j : Int) < q ∨ q + 127 ≤ (j : Int)) → G'.1 2105 bb j = G.1 2105 bb j)))) args s 0 0 (zA Γ)) 110 [some (zr 10 w), some (zr 105 bb), some (zi q), some (zi x3)] [] G3 := by
                intro nn
                induction nn with
                | zero => intro x3 G3 h110_0 h110_1 h110_2 hm; exact absurd hm (Nat.not_lt_zero _)
                | succ nn ih110 =>
                  intro x3 G3 h110_0 h110_1 h110_2 hm110
                  refine zs_iload_n (pc := 110) C dX9_put_110 rfl ?_
                  refine zs_bipush (pc := 111) C dX9_put_111 (by decide) (by decide) ?_
                  refine zs_icmp_ge (tgt := 136) (pc := 113) C dX9_put_113 (by decide) (fun h113 => ?_) (fun h113 => ?_)
                  · skip
                    have t90 := zsm_at h110_1 2090 (Γ.2.1 w 60) (0 : Int).toNat (by decide)
                    refine zs_aload_n (pc := 136) C dX9_put_136 rfl ?_
                    refine zs_iload_n (pc := 137) C dX9_put_137 rfl ?_
                    refine zs_bipush (pc := 138) C dX9_put_138 (by decide) (by decide) ?_
                    first | refine zs_iadd (pc := 140) C dX9_put_140 (by omega) ?_ | refine zs_iaddF (pc := 140) C dX9_put_140 (fun z140 hz1401 hz1402 => ?_)
                    refine zs_aload_n (pc := 141) C dX9_put_141 rfl ?_
                    refine zs_getf (pc := 142) C dX9_put_142 w_X9_106 f_10_57 (by decide) ?_
                    refine zs_iconst (pc := 145) C dX9_put_145 (by decide) ?_
                    refine zs_iald (r := 2087) (pc := 146) C dX9_put_146 a_87 (by decide) (by omega) rfl (r_2087 _) (fun v146 e146 l146 u146 => ?_)
                    refine zs_iast (r := 2105) (pc := 147) C dX9_put_147 a_105 (by decide) (by omega) rfl (rg5_n (by omega)) (by omega) ?_
                    refine zs_aload_n (pc := 148) C dX9_put_148 rfl ?_
                    refine zs_iload_n (pc := 149) C dX9_put_149 rfl ?_
                    refine zs_bipush (pc := 150) C dX9_put_150 (by decide) (by decide) ?_
                    first | refine zs_iadd (pc := 152) C dX9_put_152 (by omega) ?_ | refine zs_iaddF (pc := 152) C dX9_put_152 (fun z152 hz1521 hz1522 => ?_)
                    refine zs_aload_n (pc := 153) C dX9_put_153 rfl ?_
                    refine zs_getf (pc := 154) C dX9_put_154 w_X9_109 f_10_58 (by decide) ?_
                    refine zs_iconst (pc := 157) C dX9_put_157 (by decide) ?_
                    refine zs_iald (r := 2088) (pc := 158) C dX9_put_158 a_88 (by decide) (by omega) rfl (r_2088 _) (fun v158 e158 l158 u158 => ?_)
                    try simp only [zuI_1, zuI_2, zuJ_1, zuJ_2, zuJ_3, zuP_1, zuP_2, zuP_3, zuC_1, zuC_2, reduceIte, Nat.reduceEqDiff, false_and, and_false, true_and, and_true, and_self, or_true, true_or, or_false, false_or] at e158
                    refine zs_iast (r := 2105) (pc := 159) C dX9_put_159 a_105 (by decide) (by omega) rfl (rg5_o (by omega)) (by omega) ?_
                    refine zs_aload_n (pc := 160) C dX9_put_160 rfl ?_
                    refine zs_iload_n (pc := 161) C dX9_put_161 rfl ?_
                    refine zs_bipush (pc := 162) C dX9_put_162 (by decide) (by decide) ?_
                    first | refine zs_iadd (pc := 164) C dX9_put_164 (by omega) ?_ | refine zs_iaddF (pc := 164) C dX9_put_164 (fun z164 hz1641 hz1642 => ?_)
                    refine zs_aload_n (pc := 165) C dX9_put_165 rfl ?_
                    refine zs_getf (pc := 166) C dX9_put_166 w_X9_112 f_10_59 (by decide) ?_
                    refine zs_iconst (pc := 169) C dX9_put_169 (by decide) ?_
                    refine zs_iald (r := 2089) (pc := 170) C dX9_put_170 a_89 (by decide) (by omega) rfl (r_2089 _) (fun v170 e170 l170 u170 => ?_)
                    try simp only [zuI_1, zuI_2, zuJ_1, zuJ_2, zuJ_3, zuP_1, zuP_2, zuP_3, zuC_1, zuC_2, reduceIte, Nat.reduceEqDiff, false_and, and_false, true_and, and_true, and_self, or_true, true_or, or_false, false_or] at e170
                    refine zs_iast (r := 2105) (pc := 171) C dX9_put_171 a_105 (by decide) (by omega) rfl (rg5_o (by omega)) (by omega) ?_
                    refine zs_aload_n (pc := 172) C dX9_put_172 rfl ?_
                    refine zs_iload_n (pc := 173) C dX9_put_173 rfl ?_
                    refine zs_bipush (pc := 174) C dX9_put_174 (by decide) (by decide) ?_
                    first | refine zs_iadd (pc := 176) C dX9_put_176 (by omega) ?_ | refine zs_iaddF (pc := 176) C dX9_put_176 (fun z176 hz1761 hz1762 => ?_)
                    refine zs_aload_n (pc := 177) C dX9_put_177 rfl ?_
                    refine zs_getf (pc := 178) C dX9_put_178 w_X9_115 f_10_60 (by decide) ?_
                    refine zs_iconst (pc := 181) C dX9_put_181 (by decide) ?_
                    refine zs_iald (r := 2090) (pc := 182) C dX9_put_182 a_90 (by decide) (by omega) rfl (r_2090 _) (fun v182 e182 l182 u182 => ?_)
                    try simp only [zuI_1, zuI_2, zuJ_1, zuJ_2, zuJ_3, zuP_1, zuP_2, zuP_3, zuC_1, zuC_2, reduceIte, Nat.reduceEqDiff, false_and, and_false, true_and, and_true, and_self, or_true, true_or, or_false, false_or] at e182
                    refine zs_iast (r := 2105) (pc := 183) C dX9_put_183 a_105 (by decide) (by omega) rfl (rg5_o (by omega)) (by omega) ?_
                    exact zs_vret (pc := 184) C hr hlk dX9_put_184 ⟨by repeat (first | exact zsm_rf | assumption | refine zsm_C (by decide) ?_ | refine zsm_I (by decide) ?_ | refine zsm_J ?_ | refine zsm_c (by assumption) (by decide) ?_), (by refine ⟨by rw [zuI_1, if_pos ⟨rfl, rfl, rfl⟩]; omega, fun j hj => ?_⟩; have h9 := h110_2 j hj; simp only [zuI_1, true_and]; (repeat (rw [if_neg (by omega)])); exact h9)⟩
                  · skip
                    refine zs_aload_n (pc := 116) C dX9_put_116 rfl ?_
                    refine zs_iload_n (pc := 117) C dX9_put_117 rfl ?_
                    refine zs_bipush (pc := 118) C dX9_put_118 (by decide) (by decide) ?_
                    first | refine zs_iadd (pc := 120) C dX9_put_120 (by omega) ?_ | refine zs_iaddF (pc := 120) C dX9_put_120 (fun z120 hz1201 hz1202 => ?_)
                    refine zs_iload_n (pc := 121) C dX9_put_121 rfl ?_
                    first | refine zs_iadd (pc := 122) C dX9_put_122 (by omega) ?_ | refine zs_iaddF (pc := 122) C dX9_put_122 (fun z122 hz1221 hz1222 => ?_)
                    refine zs_aload_n (pc := 123) C dX9_put_123 rfl ?_
                    refine zs_getf (pc := 124) C dX9_put_124 w_X9_127 f_10_65 (by decide) ?_
                    refine zs_iload_n (pc := 127) C dX9_put_127 rfl ?_
                    refine zs_iald (r := 2094) (pc := 128) C dX9_put_128 a_94 (by decide) (by omega) rfl (r_2094 _) (fun v128 e128 l128 u128 => ?_)
                    refine zs_iast (r := 2105) (pc := 129) C dX9_put_129 a_105 (by decide) (by omega) rfl (rg5_h (by omega)) (by omega) ?_
                    first | refine zs_iinc (pc := 130) C dX9_put_130 rfl (by decide) (by omega) ?_ | refine zs_iincF (pc := 130) C dX9_put_130 rfl (by decide) (fun z130 hz1301 hz1302 => ?_)
                    dsimp only [zset, zclr, znone]
                    refine zs_goto (tgt := 110) (pc := 133) C dX9_put_133 (by decide) ?_
                    exact zs_wk (ih110 _ _ (by omega) (by repeat (first | exact zsm_rf | assumption | refine zsm_C (by decide) ?_ | refine zsm_I (by decide) ?_ | refine zsm_J ?_ | refine zsm_c (by assumption) (by decide) ?_)) (fun j hj => by have h9 := h110_2 j hj; simp only [zuI_1, true_and]; (repeat (rw [if_neg (by omega)])); exact h9) (by first | omega | (simp only [zuI_1, zuI_2, zuJ_1, zuJ_2, zuJ_3, zuP_1, zuP_2, zuP_3, zuC_1, zuC_2, reduceIte, Nat.reduceEqDiff, false_and, and_false, true_and, and_true, and_self, or_true, true_or, or_false, false_or]; omega))) (zwk_s rfl (zwk_s rfl (zwk_s rfl (zwk_s rfl zwk_0))))
              exact zs_wk (L110 _ _ _ (by omega) (by repeat (first | exact zsm_rf | assumption | refine zsm_C (by decide) ?_ | refine zsm_I (by decide) ?_ | refine zsm_J ?_ | refine zsm_c (by assumption) (by decide) ?_)) h41_2 (Nat.lt_succ_self _)) (zwk_s rfl (zwk_s rfl (zwk_s rfl (zwk_s rfl zwk_0))))
            · skip
              refine zs_aload_n (pc := 46) C dX9_put_46 rfl ?_
              refine zs_iload_n (pc := 47) C dX9_put_47 rfl ?_
              refine zs_bipush (pc := 48) C dX9_put_48 (by decide) (by decide) ?_
              first | refine zs_iadd (pc := 50) C dX9_put_50 (by omega) ?_ | refine zs_iaddF (pc := 50) C dX9_put_50 (fun z50 hz501 hz502 => ?_)
              refine zs_iload_n (pc := 51) C dX9_put_51 rfl ?_
              first | refine zs_iadd (pc := 52) C dX9_put_52 (by omega) ?_ | refine zs_iaddF (pc := 52) C dX9_put_52 (fun z52 hz521 hz522 => ?_)
              refine zs_aload_n (pc := 53) C dX9_put_53 rfl ?_
              refine zs_getf (pc := 54) C dX9_put_54 w_X9_94 f_10_53 (by decide) ?_
              refine zs_iload_n (pc := 57) C dX9_put_57 rfl ?_
              refine zs_iald (r := 2083) (pc := 58) C dX9_put_58 a_83 (by decide) (by omega) rfl (r_2083 _) (fun v58 e58 l58 u58 => ?_)
              refine zs_iast (r := 2105) (pc := 59) C dX9_put_59 a_105 (by decide) (by omega) rfl (rg5_o (by omega)) (by omega) ?_
              refine zs_aload_n (pc := 60) C dX9_put_60 rfl ?_
              refine zs_iload_n (pc := 61) C dX9_put_61 rfl ?_
              refine zs_bipush (pc := 62) C dX9_put_62 (by decide) (by decide) ?_
              first | refine zs_iadd (pc := 64) C dX9_put_64 (by omega) ?_ | refine zs_iaddF (pc := 64) C dX9_put_64 (fun z64 hz641 hz642 => ?_)
              refine zs_iload_n (pc := 65) C dX9_put_65 rfl ?_
              first | refine zs_iadd (pc := 66) C dX9_put_66 (by omega) ?_ | refine zs_iaddF (pc := 66) C dX9_put_66 (fun z66 hz661 hz662 => ?_)
              refine zs_aload_n (pc := 67) C dX9_put_67 rfl ?_
              refine zs_getf (pc := 68) C dX9_put_68 w_X9_97 f_10_54 (by decide) ?_
              refine zs_iload_n (pc := 71) C dX9_put_71 rfl ?_
              refine zs_iald (r := 2084) (pc := 72) C dX9_put_72 a_84 (by decide) (by omega) rfl (r_2084 _) (fun v72 e72 l72 u72 => ?_)
              try simp only [zuI_1, zuI_2, zuJ_1, zuJ_2, zuJ_3, zuP_1, zuP_2, zuP_3, zuC_1, zuC_2, reduceIte, Nat.reduceEqDiff, false_and, and_false, true_and, and_true, and_self, or_true, true_or, or_false, false_or] at e72
              refine zs_iast (r := 2105) (pc := 73) C dX9_put_73 a_105 (by decide) (by omega) rfl (rg5_o (by omega)) (by omega) ?_
              refine zs_aload_n (pc := 74) C dX9_put_74 rfl ?_
              refine zs_iload_n (pc := 75) C dX9_put_75 rfl ?_
              refine zs_bipush (pc := 76) C dX9_put_76 (by decide) (by decide) ?_
              first | refine zs_iadd (pc := 78) C dX9_put_78 (by omega) ?_ | refine zs_iaddF (pc := 78) C dX9_put_78 (fun z78 hz781 hz782 => ?_)
              refine zs_iload_n (pc := 79) C dX9_put_79 rfl ?_
              first | refine zs_iadd (pc := 80) C dX9_put_80 (by omega) ?_ | refine zs_iaddF (pc := 80) C dX9_put_80 (fun z80 hz801 hz802 => ?_)
              refine zs_aload_n (pc := 81) C dX9_put_81 rfl ?_
              refine zs_getf (pc := 82) C dX9_put_82 w_X9_100 f_10_55 (by decide) ?_
              refine zs_iload_n (pc := 85) C dX9_put_85 rfl ?_
              refine zs_iald (r := 2085) (pc := 86) C dX9_put_86 a_85 (by decide) (by omega) rfl (r_2085 _) (fun v86 e86 l86 u86 => ?_)
              try simp only [zuI_1, zuI_2, zuJ_1, zuJ_2, zuJ_3, zuP_1, zuP_2, zuP_3, zuC_1, zuC_2, reduceIte, Nat.reduceEqDiff, false_and, and_false, true_and, and_true, and_self, or_true, true_or, or_false, false_or] at e86
              refine zs_iast (r := 2105) (pc := 87) C dX9_put_87 a_105 (by decide) (by omega) rfl (rg5_o (by omega)) (by omega) ?_
              refine zs_aload_n (pc := 88) C dX9_put_88 rfl ?_
              refine zs_iload_n (pc := 89) C dX9_put_89 rfl ?_
              refine zs_bipush (pc := 90) C dX9_put_90 (by decide) (by decide) ?_
              first | refine zs_iadd (pc := 92) C dX9_put_92 (by omega) ?_ | refine zs_iaddF (pc := 92) C dX9_put_92 (fun z92 hz921 hz922 => ?_)
              refine zs_iload_n (pc := 93) C dX9_put_93 rfl ?_
              first | refine zs_iadd (pc := 94) C dX9_put_94 (by omega) ?_ | refine zs_iaddF (pc := 94) C dX9_put_94 (fun z94 hz941 hz942 => ?_)
              refine zs_aload_n (pc := 95) C dX9_put_95 rfl ?_
              refine zs_getf (pc := 96) C dX9_put_96 w_X9_103 f_10_56 (by decide) ?_
              refine zs_iload_n (pc := 99) C dX9_put_99 rfl ?_
              refine zs_iald (r := 2086) (pc := 100) C dX9_put_100 a_86 (by decide) (by omega) rfl (r_2086 _) (fun v100 e100 l100 u100 => ?_)
              try simp only [zuI_1, zuI_2, zuJ_1, zuJ_2, zuJ_3, zuP_1, zuP_2, zuP_3, zuC_1, zuC_2, reduceIte, Nat.reduceEqDiff, false_and, and_false, true_and, and_true, and_self, or_true, true_or, or_false, false_or] at e100
              refine zs_iast (r := 2105) (pc := 101) C dX9_put_101 a_105 (by decide) (by omega) rfl (rg5_o (by omega)) (by omega) ?_
              first | refine zs_iinc (pc := 102) C dX9_put_102 rfl (by decide) (by omega) ?_ | refine zs_iincF (pc := 102) C dX9_put_102 rfl (by decide) (fun z102 hz1021 hz1022 => ?_)
              dsimp only [zset, zclr, znone]
              refine zs_goto (tgt := 41) (pc := 105) C dX9_put_105 (by decide) ?_
              exact zs_wk (ih41 _ _ (by omega) (by repeat (first | exact zsm_rf | assumption | refine zsm_C (by decide) ?_ | refine zsm_I (by decide) ?_ | refine zsm_J ?_ | refine zsm_c (by assumption) (by decide) ?_)) (fun j hj => by have h9 := h41_2 j hj; simp only [zuI_1, true_and]; (repeat (rw [if_neg (by omega)])); exact h9) (by first | omega | (simp only [zuI_1, zuI_2, zuJ_1, zuJ_2, zuJ_3, zuP_1, zuP_2, zuP_3, zuC_1, zuC_2, reduceIte, Nat.reduceEqDiff, false_and, and_false, true_and, and_true, and_self, or_true, true_or, or_false, false_or]; omega))) (zwk_s rfl (zwk_s rfl (zwk_s rfl (zwk_s rfl zwk_0))))
        exact zs_wk (L41 _ _ _ (by omega) (by repeat (first | exact zsm_rf | assumption | refine zsm_C (by decide) ?_ | refine zsm_I (by decide) ?_ | refine zsm_J ?_ | refine zsm_c (by assumption) (by decide) ?_)) h2_2 (Nat.lt_succ_self _)) (zwk_s rfl (zwk_s rfl (zwk_s rfl (zwk_s rfl zwk_0))))
      · skip
        refine zs_aload_n (pc := 8) C dX9_put_8 rfl ?_
        refine zs_iload_n (pc := 9) C dX9_put_9 rfl ?_
        refine zs_iload_n (pc := 10) C dX9_put_10 rfl ?_
        first | refine zs_iadd (pc := 11) C dX9_put_11 (by omega) ?_ | refine zs_iaddF (pc := 11) C dX9_put_11 (fun z11 hz111 hz112 => ?_)
        refine zs_aload_n (pc := 12) C dX9_put_12 rfl ?_
        refine zs_getf (pc := 13) C dX9_put_13 w_X9_88 f_10_51 (by decide) ?_
        refine zs_iload_n (pc := 16) C dX9_put_16 rfl ?_
        refine zs_iald (r := 2081) (pc := 17) C dX9_put_17 a_81 (by decide) (by omega) rfl (r_2081 _) (fun v17 e17 l17 u17 => ?_)
        refine zs_iast (r := 2105) (pc := 18) C dX9_put_18 a_105 (by decide) (by omega) rfl (rg5_o (by omega)) (by omega) ?_
        refine zs_aload_n (pc := 19) C dX9_put_19 rfl ?_
        refine zs_iload_n (pc := 20) C dX9_put_20 rfl ?_
        refine zs_bipush (pc := 21) C dX9_put_21 (by decide) (by decide) ?_
        first | refine zs_iadd (pc := 23) C dX9_put_23 (by omega) ?_ | refine zs_iaddF (pc := 23) C dX9_put_23 (fun z23 hz231 hz232 => ?_)
        refine zs_iload_n (pc := 24) C dX9_put_24 rfl ?_
        first | refine zs_iadd (pc := 25) C dX9_put_25 (by omega) ?_ | refine zs_iaddF (pc := 25) C dX9_put_25 (fun z25 hz251 hz252 => ?_)
        refine zs_aload_n (pc := 26) C dX9_put_26 rfl ?_
        refine zs_getf (pc := 27) C dX9_put_27 w_X9_91 f_10_52 (by decide) ?_
        refine zs_iload_n (pc := 30) C dX9_put_30 rfl ?_
        refine zs_iald (r := 2082) (pc := 31) C dX9_put_31 a_82 (by decide) (by omega) rfl (r_2082 _) (fun v31 e31 l31 u31 => ?_)
        try simp only [zuI_1, zuI_2, zuJ_1, zuJ_2, zuJ_3, zuP_1, zuP_2, zuP_3, zuC_1, zuC_2, reduceIte, Nat.reduceEqDiff, false_and, and_false, true_and, and_true, and_self, or_true, true_or, or_false, false_or] at e31
        refine zs_iast (r := 2105) (pc := 32) C dX9_put_32 a_105 (by decide) (by omega) rfl (rg5_o (by omega)) (by omega) ?_
        first | refine zs_iinc (pc := 33) C dX9_put_33 rfl (by decide) (by omega) ?_ | refine zs_iincF (pc := 33) C dX9_put_33 rfl (by decide) (fun z33 hz331 hz332 => ?_)
        dsimp only [zset, zclr, znone]
        refine zs_goto (tgt := 2) (pc := 36) C dX9_put_36 (by decide) ?_
        exact zs_wk (ih2 _ _ (by omega) (by repeat (first | exact zsm_rf | assumption | refine zsm_C (by decide) ?_ | refine zsm_I (by decide) ?_ | refine zsm_J ?_ | refine zsm_c (by assumption) (by decide) ?_)) (fun j hj => by have h9 := h2_2 j hj; simp only [zuI_1, true_and]; (repeat (rw [if_neg (by omega)])); exact h9) (by first | omega | (simp only [zuI_1, zuI_2, zuJ_1, zuJ_2, zuJ_3, zuP_1, zuP_2, zuP_3, zuC_1, zuC_2, reduceIte, Nat.reduceEqDiff, false_and, and_false, true_and, and_true, and_self, or_true, true_or, or_false, false_or]; omega))) (zwk_s rfl (zwk_s rfl (zwk_s rfl (zwk_s rfl zwk_0))))
  exact zs_wk (L2 _ _ _ (by omega) (by repeat (first | exact zsm_rf | assumption | refine zsm_C (by decide) ?_ | refine zsm_I (by decide) ?_ | refine zsm_J ?_ | refine zsm_c (by assumption) (by decide) ?_)) (fun j hj => rfl) (Nat.lt_succ_self _)) (zwk_s rfl (zwk_s rfl (zwk_s rfl (zwk_s rfl zwk_0))))

set_option maxHeartbeats 4000000 in
set_option maxRecDepth 100000 in
theorem c_X9_takeD5 {l : Launch} {Γ : zΓ} {G : zH} {w bb : Nat} {q : Int} (hX : zXs Γ) (hq : 0 ≤ q ∧ q ≤ 2413 ∧ q % 127 = 0) : zMet l Γ yX9_take cX9_take 4 none 0 [zr 10 w, zr 105 bb, zi q] G (zpv (fun G' => zsm [2081, 2082, 2083, 2084, 2085, 2086, 2087, 2088, 2089, 2090, 2094] G G' ∧ (G'.1 2090 (Γ.2.1 w 60) (0 : Int).toNat = G.1 2105 bb (q + 123).toNat))) := by
  refine zMet_of RX9 hX (by decide) rfl (Nat.le_of_ble_eq_true rfl) ?_
  intro p e s m args below meth c C hr hlk
  show Z p l e (zrm 0) s m args below meth c Γ 4 0 0 (MQ below (zQc Γ (zpv (fun G' => zsm [2081, 2082, 2083, 2084, 2085, 2086, 2087, 2088, 2089, 2090, 2094] G G' ∧ (G'.1 2090 (Γ.2.1 w 60) (0 : Int).toNat = G.1 2105 bb (q + 123).toNat)))) args s 0 0 (zA Γ)) 0 [some (zr 10 w), some (zr 105 bb), some (zi q), none] [] G
  refine zs_loc 2 rfl (fun ha2 hb2 => ?_)
  refine zs_iconst (pc := 0) C dX9_take_0 (by decide) ?_
  refine zs_istore_n (pc := 1) C dX9_take_1 (by decide) ?_
  dsimp only [zset, zclr, znone]
  have L2 : ∀ (nn : Nat) (x3 : Int) (G1 : zH), (0 ≤ x3 ∧ x3 ≤ 20) → (zsm [2081, 2082, 2083, 2084, 2085, 2086, 2087, 2088, 2089, 2094] G G1) → (20 - x3).toNat < nn → Z p l e (zrm 0) s m args below meth c Γ 4 0 0 (MQ below (zQc Γ (zpv (fun G' => zsm [2081, 2082, 2083, 2084, 2085, 2086, 2087, 2088, 2089, 2090, 2094] G G' ∧ (G'.1 2090 (Γ.2.1 w 60) (0 : Int).toNat = G.1 2105 bb (q + 123).toNat)))) args s 0 0 (zA Γ)) 2 [some (zr 10 w), some (zr 105 bb), some (zi q), some (zi x3)] [] G1 := by
    intro nn
    induction nn with
    | zero => intro x3 G1 h2_0 h2_1 hm; exact absurd hm (Nat.not_lt_zero _)
    | succ nn ih2 =>
      intro x3 G1 h2_0 h2_1 hm2
      refine zs_iload_n (pc := 2) C dX9_take_2 rfl ?_
      refine zs_bipush (pc := 3) C dX9_take_3 (by decide) (by decide) ?_
      refine zs_icmp_ge (tgt := 39) (pc := 5) C dX9_take_5 (by decide) (fun h5 => ?_) (fun h5 => ?_)
      · skip
        refine zs_iconst (pc := 39) C dX9_take_39 (by decide) ?_
        refine zs_istore_n (pc := 40) C dX9_take_40 (by decide) ?_
        dsimp only [zset, zclr, znone]
        have L41 : ∀ (nn : Nat) (x3 : Int) (G2 : zH), (0 ≤ x3 ∧ x3 ≤ 5) → (zsm [2081, 2082, 2083, 2084, 2085, 2086, 2087, 2088, 2089, 2094] G G2) → (5 - x3).toNat < nn → Z p l e (zrm 0) s m args below meth c Γ 4 0 0 (MQ below (zQc Γ (zpv (fun G' => zsm [2081, 2082, 2083, 2084, 2085, 2086, 2087, 2088, 2089, 2090, 2094] G G' ∧ (G'.1 2090 (Γ.2.1 w 60) (0 : Int).toNat = G.1 2105 bb (q + 123).toNat)))) args s 0 0 (zA Γ)) 41 [some (zr 10 w), some (zr 105 bb), some (zi q), some (zi x3)] [] G2 := by
          intro nn
          induction nn with
          | zero => intro x3 G2 h41_0 h41_1 hm; exact absurd hm (Nat.not_lt_zero _)
          | succ nn ih41 =>
            intro x3 G2 h41_0 h41_1 hm41
            refine zs_iload_n (pc := 41) C dX9_take_41 rfl ?_
            refine zs_iconst (pc := 42) C dX9_take_42 (by decide) ?_
            refine zs_icmp_ge (tgt := 108) (pc := 43) C dX9_take_43 (by decide) (fun h43 => ?_) (fun h43 => ?_)
            · skip
              refine zs_iconst (pc := 108) C dX9_take_108 (by decide) ?_
              refine zs_istore_n (pc := 109) C dX9_take_109 (by decide) ?_
              dsimp only [zset, zclr, znone]
              have L110 : ∀ (nn : Nat) (x3 : Int) (G3 : zH), (0 ≤ x3 ∧ x3 ≤ 60) → (zsm [2081, 2082, 2083, 2084, 2085, 2086, 2087, 2088, 2089, 2094] G G3) → (60 - x3).toNat < nn → Z p l e (zrm 0) s m args below meth c Γ 4 0 0 (MQ below (zQc Γ (zpv (fun G' => zsm [2081, 2082, 2083, 2084, 2085, 2086, 2087, 2088, 2089, 2090, 2094] G G' ∧ (G'.1 2090 (Γ.2.1 w 60) (0 : Int).toNat = G.1 2105 bb (q + 123).toNat)))) args s 0 0 (zA Γ)) 110 [some (zr 10 w), some (zr 105 bb), some (zi q), some (zi x3)] [] G3 := by
                intro nn
                induction nn with
                | zero => intro x3 G3 h110_0 h110_1 hm; exact absurd hm (Nat.not_lt_zero _)
                | succ nn ih110 =>
                  intro x3 G3 h110_0 h110_1 hm110
                  refine zs_iload_n (pc := 110) C dX9_take_110 rfl ?_
                  refine zs_bipush (pc := 111) C dX9_take_111 (by decide) (by decide) ?_
                  refine zs_icmp_ge (tgt := 136) (pc := 113) C dX9_take_113 (by decide) (fun h113 => ?_) (fun h113 => ?_)
                  · skip
                    have t05 := zsm_at h110_1 2105 bb (q + 123).toNat (by decide)
                    refine zs_aload_n (pc := 136) C dX9_take_136 rfl ?_
                    refine zs_getf (pc := 137) C dX9_take_137 w_X9_106 f_10_57 (by decide) ?_
                    refine zs_iconst (pc := 140) C dX9_take_140 (by decide) ?_
                    refine zs_aload_n (pc := 141) C dX9_take_141 rfl ?_
                    refine zs_iload_n (pc := 142) C dX9_take_142 rfl ?_
                    refine zs_bipush (pc := 143) C dX9_take_143 (by decide) (by decide) ?_
                    first | refine zs_iadd (pc := 145) C dX9_take_145 (by omega) ?_ | refine zs_iaddF (pc := 145) C dX9_take_145 (fun z145 hz1451 hz1452 => ?_)
                    refine zs_iald (r := 2105) (pc := 146) C dX9_take_146 a_105 (by decide) (by omega) rfl (rg5_n (by omega)) (fun v146 e146 l146 u146 => ?_)
                    refine zs_iast (r := 2087) (pc := 147) C dX9_take_147 a_87 (by decide) (by omega) rfl (r_2087 _) (by omega) ?_
                    refine zs_aload_n (pc := 148) C dX9_take_148 rfl ?_
                    refine zs_getf (pc := 149) C dX9_take_149 w_X9_109 f_10_58 (by decide) ?_
                    refine zs_iconst (pc := 152) C dX9_take_152 (by decide) ?_
                    refine zs_aload_n (pc := 153) C dX9_take_153 rfl ?_
                    refine zs_iload_n (pc := 154) C dX9_take_154 rfl ?_
                    refine zs_bipush (pc := 155) C dX9_take_155 (by decide) (by decide) ?_
                    first | refine zs_iadd (pc := 157) C dX9_take_157 (by omega) ?_ | refine zs_iaddF (pc := 157) C dX9_take_157 (fun z157 hz1571 hz1572 => ?_)
                    refine zs_iald (r := 2105) (pc := 158) C dX9_take_158 a_105 (by decide) (by omega) rfl (rg5_o (by omega)) (fun v158 e158 l158 u158 => ?_)
                    try simp only [zuI_1, zuI_2, zuJ_1, zuJ_2, zuJ_3, zuP_1, zuP_2, zuP_3, zuC_1, zuC_2, reduceIte, Nat.reduceEqDiff, false_and, and_false, true_and, and_true, and_self, or_true, true_or, or_false, false_or] at e158
                    refine zs_iast (r := 2088) (pc := 159) C dX9_take_159 a_88 (by decide) (by omega) rfl (r_2088 _) (by omega) ?_
                    refine zs_aload_n (pc := 160) C dX9_take_160 rfl ?_
                    refine zs_getf (pc := 161) C dX9_take_161 w_X9_112 f_10_59 (by decide) ?_
                    refine zs_iconst (pc := 164) C dX9_take_164 (by decide) ?_
                    refine zs_aload_n (pc := 165) C dX9_take_165 rfl ?_
                    refine zs_iload_n (pc := 166) C dX9_take_166 rfl ?_
                    refine zs_bipush (pc := 167) C dX9_take_167 (by decide) (by decide) ?_
                    first | refine zs_iadd (pc := 169) C dX9_take_169 (by omega) ?_ | refine zs_iaddF (pc := 169) C dX9_take_169 (fun z169 hz1691 hz1692 => ?_)
                    refine zs_iald (r := 2105) (pc := 170) C dX9_take_170 a_105 (by decide) (by omega) rfl (rg5_o (by omega)) (fun v170 e170 l170 u170 => ?_)
                    try simp only [zuI_1, zuI_2, zuJ_1, zuJ_2, zuJ_3, zuP_1, zuP_2, zuP_3, zuC_1, zuC_2, reduceIte, Nat.reduceEqDiff, false_and, and_false, true_and, and_true, and_self, or_true, true_or, or_false, false_or] at e170
                    refine zs_iast (r := 2089) (pc := 171) C dX9_take_171 a_89 (by decide) (by omega) rfl (r_2089 _) (by omega) ?_
                    refine zs_aload_n (pc := 172) C dX9_take_172 rfl ?_
                    refine zs_getf (pc := 173) C dX9_take_173 w_X9_115 f_10_60 (by decide) ?_
                    refine zs_iconst (pc := 176) C dX9_take_176 (by decide) ?_
                    refine zs_aload_n (pc := 177) C dX9_take_177 rfl ?_
                    refine zs_iload_n (pc := 178) C dX9_take_178 rfl ?_
                    refine zs_bipush (pc := 179) C dX9_take_179 (by decide) (by decide) ?_
                    first | refine zs_iadd (pc := 181) C dX9_take_181 (by omega) ?_ | refine zs_iaddF (pc := 181) C dX9_take_181 (fun z181 hz1811 hz1812 => ?_)
                    refine zs_iald (r := 2105) (pc := 182) C dX9_take_182 a_105 (by decide) (by omega) rfl (rg5_o (by omega)) (fun v182 e182 l182 u182 => ?_)
                    try simp only [zuI_1, zuI_2, zuJ_1, zuJ_2, zuJ_3, zuP_1, zuP_2, zuP_3, zuC_1, zuC_2, reduceIte, Nat.reduceEqDiff, false_and, and_false, true_and, and_true, and_self, or_true, true_or, or_false, false_or] at e182
                    refine zs_iast (r := 2090) (pc := 183) C dX9_take_183 a_90 (by decide) (by omega) rfl (r_2090 _) (by omega) ?_
                    exact zs_vret (pc := 184) C hr hlk dX9_take_184 ⟨by repeat (first | exact zsm_rf | assumption | refine zsm_C (by decide) ?_ | refine zsm_I (by decide) ?_ | refine zsm_J ?_ | refine zsm_c (by assumption) (by decide) ?_), (by rw [zuI_1, if_pos ⟨rfl, rfl, rfl⟩]; omega)⟩
                  · skip
                    refine zs_aload_n (pc := 116) C dX9_take_116 rfl ?_
                    refine zs_getf (pc := 117) C dX9_take_117 w_X9_127 f_10_65 (by decide) ?_
                    refine zs_iload_n (pc := 120) C dX9_take_120 rfl ?_
                    refine zs_aload_n (pc := 121) C dX9_take_121 rfl ?_
                    refine zs_iload_n (pc := 122) C dX9_take_122 rfl ?_
                    refine zs_bipush (pc := 123) C dX9_take_123 (by decide) (by decide) ?_
                    first | refine zs_iadd (pc := 125) C dX9_take_125 (by omega) ?_ | refine zs_iaddF (pc := 125) C dX9_take_125 (fun z125 hz1251 hz1252 => ?_)
                    refine zs_iload_n (pc := 126) C dX9_take_126 rfl ?_
                    first | refine zs_iadd (pc := 127) C dX9_take_127 (by omega) ?_ | refine zs_iaddF (pc := 127) C dX9_take_127 (fun z127 hz1271 hz1272 => ?_)
                    refine zs_iald (r := 2105) (pc := 128) C dX9_take_128 a_105 (by decide) (by omega) rfl (rg5_h (by omega)) (fun v128 e128 l128 u128 => ?_)
                    refine zs_iast (r := 2094) (pc := 129) C dX9_take_129 a_94 (by decide) (by omega) rfl (r_2094 _) (by omega) ?_
                    first | refine zs_iinc (pc := 130) C dX9_take_130 rfl (by decide) (by omega) ?_ | refine zs_iincF (pc := 130) C dX9_take_130 rfl (by decide) (fun z130 hz1301 hz1302 => ?_)
                    dsimp only [zset, zclr, znone]
                    refine zs_goto (tgt := 110) (pc := 133) C dX9_take_133 (by decide) ?_
                    exact zs_wk (ih110 _ _ (by first | omega | (simp only [zuI_1, zuI_2, zuJ_1, zuJ_2, zuJ_3, zuP_1, zuP_2, zuP_3, zuC_1, zuC_2, reduceIte, Nat.reduceEqDiff, false_and, and_false, true_and, and_true, and_self, or_true, true_or, or_false, false_or]; omega)) (by repeat (first | exact zsm_rf | assumption | refine zsm_C (by decide) ?_ | refine zsm_I (by decide) ?_ | refine zsm_J ?_ | refine zsm_c (by assumption) (by decide) ?_)) (by first | omega | (simp only [zuI_1, zuI_2, zuJ_1, zuJ_2, zuJ_3, zuP_1, zuP_2, zuP_3, zuC_1, zuC_2, reduceIte, Nat.reduceEqDiff, false_and, and_false, true_and, and_true, and_self, or_true, true_or, or_false, false_or]; omega))) (zwk_s rfl (zwk_s rfl (zwk_s rfl (zwk_s rfl zwk_0))))
              exact zs_wk (L110 _ _ _ (by first | omega | (simp only [zuI_1, zuI_2, zuJ_1, zuJ_2, zuJ_3, zuP_1, zuP_2, zuP_3, zuC_1, zuC_2, reduceIte, Nat.reduceEqDiff, false_and, and_false, true_and, and_true, and_self, or_true, true_or, or_false, false_or]; omega)) (by repeat (first | exact zsm_rf | assumption | refine zsm_C (by decide) ?_ | refine zsm_I (by decide) ?_ | refine zsm_J ?_ | refine zsm_c (by assumption) (by decide) ?_)) (Nat.lt_succ_self _)) (zwk_s rfl (zwk_s rfl (zwk_s rfl (zwk_s rfl zwk_0))))
            · skip
              refine zs_aload_n (pc := 46) C dX9_take_46 rfl ?_
              refine zs_getf (pc := 47) C dX9_take_47 w_X9_94 f_10_53 (by decide) ?_
              refine zs_iload_n (pc := 50) C dX9_take_50 rfl ?_
              refine zs_aload_n (pc := 51) C dX9_take_51 rfl ?_
              refine zs_iload_n (pc := 52) C dX9_take_52 rfl ?_
              refine zs_bipush (pc := 53) C dX9_take_53 (by decide) (by decide) ?_
              first | refine zs_iadd (pc := 55) C dX9_take_55 (by omega) ?_ | refine zs_iaddF (pc := 55) C dX9_take_55 (fun z55 hz551 hz552 => ?_)
              refine zs_iload_n (pc := 56) C dX9_take_56 rfl ?_
              first | refine zs_iadd (pc := 57) C dX9_take_57 (by omega) ?_ | refine zs_iaddF (pc := 57) C dX9_take_57 (fun z57 hz571 hz572 => ?_)
              refine zs_iald (r := 2105) (pc := 58) C dX9_take_58 a_105 (by decide) (by omega) rfl (rg5_o (by omega)) (fun v58 e58 l58 u58 => ?_)
              refine zs_iast (r := 2083) (pc := 59) C dX9_take_59 a_83 (by decide) (by omega) rfl (r_2083 _) (by omega) ?_
              refine zs_aload_n (pc := 60) C dX9_take_60 rfl ?_
              refine zs_getf (pc := 61) C dX9_take_61 w_X9_97 f_10_54 (by decide) ?_
              refine zs_iload_n (pc := 64) C dX9_take_64 rfl ?_
              refine zs_aload_n (pc := 65) C dX9_take_65 rfl ?_
              refine zs_iload_n (pc := 66) C dX9_take_66 rfl ?_
              refine zs_bipush (pc := 67) C dX9_take_67 (by decide) (by decide) ?_
              first | refine zs_iadd (pc := 69) C dX9_take_69 (by omega) ?_ | refine zs_iaddF (pc := 69) C dX9_take_69 (fun z69 hz691 hz692 => ?_)
              refine zs_iload_n (pc := 70) C dX9_take_70 rfl ?_
              first | refine zs_iadd (pc := 71) C dX9_take_71 (by omega) ?_ | refine zs_iaddF (pc := 71) C dX9_take_71 (fun z71 hz711 hz712 => ?_)
              refine zs_iald (r := 2105) (pc := 72) C dX9_take_72 a_105 (by decide) (by omega) rfl (rg5_o (by omega)) (fun v72 e72 l72 u72 => ?_)
              try simp only [zuI_1, zuI_2, zuJ_1, zuJ_2, zuJ_3, zuP_1, zuP_2, zuP_3, zuC_1, zuC_2, reduceIte, Nat.reduceEqDiff, false_and, and_false, true_and, and_true, and_self, or_true, true_or, or_false, false_or] at e72
              refine zs_iast (r := 2084) (pc := 73) C dX9_take_73 a_84 (by decide) (by omega) rfl (r_2084 _) (by omega) ?_
              refine zs_aload_n (pc := 74) C dX9_take_74 rfl ?_
              refine zs_getf (pc := 75) C dX9_take_75 w_X9_100 f_10_55 (by decide) ?_
              refine zs_iload_n (pc := 78) C dX9_take_78 rfl ?_
              refine zs_aload_n (pc := 79) C dX9_take_79 rfl ?_
              refine zs_iload_n (pc := 80) C dX9_take_80 rfl ?_
              refine zs_bipush (pc := 81) C dX9_take_81 (by decide) (by decide) ?_
              first | refine zs_iadd (pc := 83) C dX9_take_83 (by omega) ?_ | refine zs_iaddF (pc := 83) C dX9_take_83 (fun z83 hz831 hz832 => ?_)
              refine zs_iload_n (pc := 84) C dX9_take_84 rfl ?_
              first | refine zs_iadd (pc := 85) C dX9_take_85 (by omega) ?_ | refine zs_iaddF (pc := 85) C dX9_take_85 (fun z85 hz851 hz852 => ?_)
              refine zs_iald (r := 2105) (pc := 86) C dX9_take_86 a_105 (by decide) (by omega) rfl (rg5_o (by omega)) (fun v86 e86 l86 u86 => ?_)
              try simp only [zuI_1, zuI_2, zuJ_1, zuJ_2, zuJ_3, zuP_1, zuP_2, zuP_3, zuC_1, zuC_2, reduceIte, Nat.reduceEqDiff, false_and, and_false, true_and, and_true, and_self, or_true, true_or, or_false, false_or] at e86
              refine zs_iast (r := 2085) (pc := 87) C dX9_take_87 a_85 (by decide) (by omega) rfl (r_2085 _) (by omega) ?_
              refine zs_aload_n (pc := 88) C dX9_take_88 rfl ?_
              refine zs_getf (pc := 89) C dX9_take_89 w_X9_103 f_10_56 (by decide) ?_
              refine zs_iload_n (pc := 92) C dX9_take_92 rfl ?_
              refine zs_aload_n (pc := 93) C dX9_take_93 rfl ?_
              refine zs_iload_n (pc := 94) C dX9_take_94 rfl ?_
              refine zs_bipush (pc := 95) C dX9_take_95 (by decide) (by decide) ?_
              first | refine zs_iadd (pc := 97) C dX9_take_97 (by omega) ?_ | refine zs_iaddF (pc := 97) C dX9_take_97 (fun z97 hz971 hz972 => ?_)
              refine zs_iload_n (pc := 98) C dX9_take_98 rfl ?_
              first | refine zs_iadd (pc := 99) C dX9_take_99 (by omega) ?_ | refine zs_iaddF (pc := 99) C dX9_take_99 (fun z99 hz991 hz992 => ?_)
              refine zs_iald (r := 2105) (pc := 100) C dX9_take_100 a_105 (by decide) (by omega) rfl (rg5_o (by omega)) (fun v100 e100 l100 u100 => ?_)
              try simp only [zuI_1, zuI_2, zuJ_1, zuJ_2, zuJ_3, zuP_1, zuP_2, zuP_3, zuC_1, zuC_2, reduceIte, Nat.reduceEqDiff, false_and, and_false, true_and, and_true, and_self, or_true, true_or, or_false, false_or] at e100
              refine zs_iast (r := 2086) (pc := 101) C dX9_take_101 a_86 (by decide) (by omega) rfl (r_2086 _) (by omega) ?_
              first | refine zs_iinc (pc := 102) C dX9_take_102 rfl (by decide) (by omega) ?_ | refine zs_iincF (pc := 102) C dX9_take_102 rfl (by decide) (fun z102 hz1021 hz1022 => ?_)
              dsimp only [zset, zclr, znone]
              refine zs_goto (tgt := 41) (pc := 105) C dX9_take_105 (by decide) ?_
              exact zs_wk (ih41 _ _ (by first | omega | (simp only [zuI_1, zuI_2, zuJ_1, zuJ_2, zuJ_3, zuP_1, zuP_2, zuP_3, zuC_1, zuC_2, reduceIte, Nat.reduceEqDiff, false_and, and_false, true_and, and_true, and_self, or_true, true_or, or_false, false_or]; omega)) (by repeat (first | exact zsm_rf | assumption | refine zsm_C (by decide) ?_ | refine zsm_I (by decide) ?_ | refine zsm_J ?_ | refine zsm_c (by assumption) (by decide) ?_)) (by first | omega | (simp only [zuI_1, zuI_2, zuJ_1, zuJ_2, zuJ_3, zuP_1, zuP_2, zuP_3, zuC_1, zuC_2, reduceIte, Nat.reduceEqDiff, false_and, and_false, true_and, and_true, and_self, or_true, true_or, or_false, false_or]; omega))) (zwk_s rfl (zwk_s rfl (zwk_s rfl (zwk_s rfl zwk_0))))
        exact zs_wk (L41 _ _ _ (by first | omega | (simp only [zuI_1, zuI_2, zuJ_1, zuJ_2, zuJ_3, zuP_1, zuP_2, zuP_3, zuC_1, zuC_2, reduceIte, Nat.reduceEqDiff, false_and, and_false, true_and, and_true, and_self, or_true, true_or, or_false, false_or]; omega)) (by repeat (first | exact zsm_rf | assumption | refine zsm_C (by decide) ?_ | refine zsm_I (by decide) ?_ | refine zsm_J ?_ | refine zsm_c (by assumption) (by decide) ?_)) (Nat.lt_succ_self _)) (zwk_s rfl (zwk_s rfl (zwk_s rfl (zwk_s rfl zwk_0))))
      · skip
        refine zs_aload_n (pc := 8) C dX9_take_8 rfl ?_
        refine zs_getf (pc := 9) C dX9_take_9 w_X9_88 f_10_51 (by decide) ?_
        refine zs_iload_n (pc := 12) C dX9_take_12 rfl ?_
        refine zs_aload_n (pc := 13) C dX9_take_13 rfl ?_
        refine zs_iload_n (pc := 14) C dX9_take_14 rfl ?_
        refine zs_iload_n (pc := 15) C dX9_take_15 rfl ?_
        first | refine zs_iadd (pc := 16) C dX9_take_16 (by omega) ?_ | refine zs_iaddF (pc := 16) C dX9_take_16 (fun z16 hz161 hz162 => ?_)
        refine zs_iald (r := 2105) (pc := 17) C dX9_take_17 a_105 (by decide) (by omega) rfl (rg5_o (by omega)) (fun v17 e17 l17 u17 => ?_)
        refine zs_iast (r := 2081) (pc := 18) C dX9_take_18 a_81 (by decide) (by omega) rfl (r_2081 _) (by omega) ?_
        refine zs_aload_n (pc := 19) C dX9_take_19 rfl ?_
        refine zs_getf (pc := 20) C dX9_take_20 w_X9_91 f_10_52 (by decide) ?_
        refine zs_iload_n (pc := 23) C dX9_take_23 rfl ?_
        refine zs_aload_n (pc := 24) C dX9_take_24 rfl ?_
        refine zs_iload_n (pc := 25) C dX9_take_25 rfl ?_
        refine zs_bipush (pc := 26) C dX9_take_26 (by decide) (by decide) ?_
        first | refine zs_iadd (pc := 28) C dX9_take_28 (by omega) ?_ | refine zs_iaddF (pc := 28) C dX9_take_28 (fun z28 hz281 hz282 => ?_)
        refine zs_iload_n (pc := 29) C dX9_take_29 rfl ?_
        first | refine zs_iadd (pc := 30) C dX9_take_30 (by omega) ?_ | refine zs_iaddF (pc := 30) C dX9_take_30 (fun z30 hz301 hz302 => ?_)
        refine zs_iald (r := 2105) (pc := 31) C dX9_take_31 a_105 (by decide) (by omega) rfl (rg5_o (by omega)) (fun v31 e31 l31 u31 => ?_)
        try simp only [zuI_1, zuI_2, zuJ_1, zuJ_2, zuJ_3, zuP_1, zuP_2, zuP_3, zuC_1, zuC_2, reduceIte, Nat.reduceEqDiff, false_and, and_false, true_and, and_true, and_self, or_true, true_or, or_false, false_or] at e31
        refine zs_iast (r := 2082) (pc := 32) C dX9_take_32 a_82 (by decide) (by omega) rfl (r_2082 _) (by omega) ?_
        first | refine zs_iinc (pc := 33) C dX9_take_33 rfl (by decide) (by omega) ?_ | refine zs_iincF (pc := 33) C dX9_take_33 rfl (by decide) (fun z33 hz331 hz332 => ?_)
        dsimp only [zset, zclr, znone]
        refine zs_goto (tgt := 2) (pc := 36) C dX9_take_36 (by decide) ?_
        exact zs_wk (ih2 _ _ (by first | omega | (simp only [zuI_1, zuI_2, zuJ_1, zuJ_2, zuJ_3, zuP_1, zuP_2, zuP_3, zuC_1, zuC_2, reduceIte, Nat.reduceEqDiff, false_and, and_false, true_and, and_true, and_self, or_true, true_or, or_false, false_or]; omega)) (by repeat (first | exact zsm_rf | assumption | refine zsm_C (by decide) ?_ | refine zsm_I (by decide) ?_ | refine zsm_J ?_ | refine zsm_c (by assumption) (by decide) ?_)) (by first | omega | (simp only [zuI_1, zuI_2, zuJ_1, zuJ_2, zuJ_3, zuP_1, zuP_2, zuP_3, zuC_1, zuC_2, reduceIte, Nat.reduceEqDiff, false_and, and_false, true_and, and_true, and_self, or_true, true_or, or_false, false_or]; omega))) (zwk_s rfl (zwk_s rfl (zwk_s rfl (zwk_s rfl zwk_0))))
  exact zs_wk (L2 _ _ _ (by first | omega | (simp only [zuI_1, zuI_2, zuJ_1, zuJ_2, zuJ_3, zuP_1, zuP_2, zuP_3, zuC_1, zuC_2, reduceIte, Nat.reduceEqDiff, false_and, and_false, true_and, and_true, and_self, or_true, true_or, or_false, false_or]; omega)) (by repeat (first | exact zsm_rf | assumption | refine zsm_C (by decide) ?_ | refine zsm_I (by decide) ?_ | refine zsm_J ?_ | refine zsm_c (by assumption) (by decide) ?_)) (Nat.lt_succ_self _)) (zwk_s rfl (zwk_s rfl (zwk_s rfl (zwk_s rfl zwk_0))))

set_option maxHeartbeats 4000000 in
set_option maxRecDepth 100000 in
theorem c_X9_putD6 {l : Launch} {Γ : zΓ} {G : zH} {w bb : Nat} {q : Int} (hX : zXs Γ) (hq : 0 ≤ q ∧ q ≤ 0 ∧ q % 127 = 0) : zMet l Γ yX9_put cX9_put 4 none 0 [zr 10 w, zr 106 bb, zi q] G (zpv (fun G' => zsm [2106] G G' ∧ (G'.1 2106 bb (q + 123).toNat = G.1 2090 (Γ.2.1 w 60) (0 : Int).toNat ∧ ∀ j : Nat, ((j : Int) < q ∨ q + 127 ≤ (j : Int)) → G'.1 2106 bb j = G.1 2106 bb j))) := by
  refine zMet_of RX9 hX (by decide) rfl (Nat.le_of_ble_eq_true rfl) ?_
  intro p e s m args below meth c C hr hlk
  show Z p l e (zrm 0) s m args below meth c Γ 4 0 0 (MQ below (zQc Γ (zpv (fun G' => zsm [2106] G G' ∧ (G'.1 2106 bb (q + 123).toNat = G.1 2090 (Γ.2.1 w 60) (0 : Int).toNat ∧ ∀ j : Nat, ((j : Int) < q ∨ q + 127 ≤ (j : Int)) → G'.1 2106 bb j = G.1 2106 bb j)))) args s 0 0 (zA Γ)) 0 [some (zr 10 w), some (zr 106 bb), some (zi q), none] [] G
  refine zs_loc 2 rfl (fun ha2 hb2 => ?_)
  refine zs_iconst (pc := 0) C dX9_put_0 (by decide) ?_
  refine zs_istore_n (pc := 1) C dX9_put_1 (by decide) ?_
  dsimp only [zset, zclr, znone]
  have L2 : ∀ (nn : Nat) (x3 : Int) (G1 : zH), (0 ≤ x3 ∧ x3 ≤ 20) → (zsm [2106] G G1) → (∀ j : Nat, ((j : Int) < q ∨ q + 127 ≤ (j : Int)) → G1.1 2106 bb j = G.1 2106 bb j) → (20 - x3).toNat < nn → Z p l e (zrm 0) s m args below meth c Γ 4 0 0 (MQ below (zQc Γ (zpv (fun G' => zsm [2106] G G' ∧ (G'.1 2106 bb (q + 123).toNat = G.1 2090 (Γ.2.1 w 60) (0 : Int).toNat ∧ ∀ j : Nat, ((j : Int) < q ∨ q + 127 ≤ (j : Int)) → G'.1 2106 bb j = G.1 2106 bb j)))) args s 0 0 (zA Γ)) 2 [some (zr 10 w), some (zr 106 bb), some (zi q), some (zi x3)] [] G1 := by
    intro nn
    induction nn with
    | zero => intro x3 G1 h2_0 h2_1 h2_2 hm; exact absurd hm (Nat.not_lt_zero _)
    | succ nn ih2 =>
      intro x3 G1 h2_0 h2_1 h2_2 hm2
      refine zs_iload_n (pc := 2) C dX9_put_2 rfl ?_
      refine zs_bipush (pc := 3) C dX9_put_3 (by decide) (by decide) ?_
      refine zs_icmp_ge (tgt := 39) (pc := 5) C dX9_put_5 (by decide) (fun h5 => ?_) (fun h5 => ?_)
      · skip
        refine zs_iconst (pc := 39) C dX9_put_39 (by decide) ?_
        refine zs_istore_n (pc := 40) C dX9_put_40 (by decide) ?_
        dsimp only [zset, zclr, znone]
        have L41 : ∀ (nn : Nat) (x3 : Int) (G2 : zH), (0 ≤ x3 ∧ x3 ≤ 5) → (zsm [2106] G G2) → (∀ j : Nat, ((j : Int) < q ∨ q + 127 ≤ (j : Int)) → G2.1 2106 bb j = G.1 2106 bb j) → (5 - x3).toNat < nn → Z p l e (zrm 0) s m args below meth c Γ 4 0 0 (MQ below (zQc Γ (zpv (fun G' => zsm [2106] G G' ∧ (G'.1 2106 bb (q + 123).toNat = G.1 2090 (Γ.2.1 w 60) (0 : Int).toNat ∧ ∀ j : Nat, ((j : Int) < q ∨ q + 127 ≤ (j : Int)) → G'.1 2106 bb j = G.1 2106 bb j)))) args s 0 0 (zA Γ)) 41 [some (zr 10 w), some (zr 106 bb), some (zi q), some (zi x3)] [] G2 := by
          intro nn
          induction nn with
          | zero => intro x3 G2 h41_0 h41_1 h41_2 hm; exact absurd hm (Nat.not_lt_zero _)
          | succ nn ih41 =>
            intro x3 G2 h41_0 h41_1 h41_2 hm41
            refine zs_iload_n (pc := 41) C dX9_put_41 rfl ?_
            refine zs_iconst (pc := 42) C dX9_put_42 (by decide) ?_
            refine zs_icmp_ge (tgt := 108) (pc := 43) C dX9_put_43 (by decide) (fun h43 => ?_) (fun h43 => ?_)
            · skip
              refine zs_iconst (pc := 108) C dX9_put_108 (by decide) ?_
              refine zs_istore_n (pc := 109) C dX9_put_109 (by decide) ?_
              dsimp only [zset, zclr, znone]
              have L110 : ∀ (nn : Nat) (x3 : Int) (G3 : zH), (0 ≤ x3 ∧ x3 ≤ 60) → (zsm [2106] G G3) → (∀ j : Nat, ((j : Int) < q ∨ q + 127 ≤ (j : Int)) → G3.1 2106 bb j = G.1 2106 bb j) → (60 - x3).toNat < nn → Z p l e (zrm 0) s m args below meth c Γ 4 0 0 (MQ below (zQc Γ (zpv (fun G' => zsm [2106] G G' ∧ (G'.1 2106 bb (q + 123).toNat = G.1 2090 (Γ.2.1 w 60) (0 : Int).toNat ∧ ∀ j : Nat, ((j : Int) < q ∨ q + 127 ≤ (j : Int)) → G'.1 2106 bb j = G.1 2106 bb j)))) args s 0 0 (zA Γ)) 110 [some (zr 10 w), some (zr 106 bb), some (zi q), some (zi x3)] [] G3 := by
                intro nn
                induction nn with
                | zero => intro x3 G3 h110_0 h110_1 h110_2 hm; exact absurd hm (Nat.not_lt_zero _)
                | succ nn ih110 =>
                  intro x3 G3 h110_0 h110_1 h110_2 hm110
                  refine zs_iload_n (pc := 110) C dX9_put_110 rfl ?_
                  refine zs_bipush (pc := 111) C dX9_put_111 (by decide) (by decide) ?_
                  refine zs_icmp_ge (tgt := 136) (pc := 113) C dX9_put_113 (by decide) (fun h113 => ?_) (fun h113 => ?_)
                  · skip
                    have t90 := zsm_at h110_1 2090 (Γ.2.1 w 60) (0 : Int).toNat (by decide)
                    refine zs_aload_n (pc := 136) C dX9_put_136 rfl ?_
                    refine zs_iload_n (pc := 137) C dX9_put_137 rfl ?_
                    refine zs_bipush (pc := 138) C dX9_put_138 (by decide) (by decide) ?_
                    first | refine zs_iadd (pc := 140) C dX9_put_140 (by omega) ?_ | refine zs_iaddF (pc := 140) C dX9_put_140 (fun z140 hz1401 hz1402 => ?_)
                    refine zs_aload_n (pc := 141) C dX9_put_141 rfl ?_
                    refine zs_getf (pc := 142) C dX9_put_142 w_X9_106 f_10_57 (by decide) ?_
                    refine zs_iconst (pc := 145) C dX9_put_145 (by decide) ?_
                    refine zs_iald (r := 2087) (pc := 146) C dX9_put_146 a_87 (by decide) (by omega) rfl (r_2087 _) (fun v146 e146 l146 u146 => ?_)
                    refine zs_iast (r := 2106) (pc := 147) C dX9_put_147 a_106 (by decide) (by omega) rfl (rg6_n (by omega)) (by omega) ?_
                    refine zs_aload_n (pc := 148) C dX9_put_148 rfl ?_
                    refine zs_iload_n (pc := 149) C dX9_put_149 rfl ?_
                    refine zs_bipush (pc := 150) C dX9_put_150 (by decide) (by decide) ?_
                    first | refine zs_iadd (pc := 152) C dX9_put_152 (by omega) ?_ | refine zs_iaddF (pc := 152) C dX9_put_152 (fun z152 hz1521 hz1522 => ?_)
                    refine zs_aload_n (pc := 153) C dX9_put_153 rfl ?_
                    refine zs_getf (pc := 154) C dX9_put_154 w_X9_109 f_10_58 (by decide) ?_
                    refine zs_iconst (pc := 157) C dX9_put_157 (by decide) ?_
                    refine zs_iald (r := 2088) (pc := 158) C dX9_put_158 a_88 (by decide) (by omega) rfl (r_2088 _) (fun v158 e158 l158 u158 => ?_)
                    try simp only [zuI_1, zuI_2, zuJ_1, zuJ_2, zuJ_3, zuP_1, zuP_2, zuP_3, zuC_1, zuC_2, reduceIte, Nat.reduceEqDiff, false_and, and_false, true_and, and_true, and_self, or_true, true_or, or_false, false_or] at e158
                    refine zs_iast (r := 2106) (pc := 159) C dX9_put_159 a_106 (by decide) (by omega) rfl (rg6_o (by omega)) (by omega) ?_
                    refine zs_aload_n (pc := 160) C dX9_put_160 rfl ?_
                    refine zs_iload_n (pc := 161) C dX9_put_161 rfl ?_
                    refine zs_bipush (pc := 162) C dX9_put_162 (by decide) (by decide) ?_
                    first | refine zs_iadd (pc := 164) C dX9_put_164 (by omega) ?_ | refine zs_iaddF (pc := 164) C dX9_put_164 (fun z164 hz1641 hz1642 => ?_)
                    refine zs_aload_n (pc := 165) C dX9_put_165 rfl ?_
                    refine zs_getf (pc := 166) C dX9_put_166 w_X9_112 f_10_59 (by decide) ?_
                    refine zs_iconst (pc := 169) C dX9_put_169 (by decide) ?_
                    refine zs_iald (r := 2089) (pc := 170) C dX9_put_170 a_89 (by decide) (by omega) rfl (r_2089 _) (fun v170 e170 l170 u170 => ?_)
                    try simp only [zuI_1, zuI_2, zuJ_1, zuJ_2, zuJ_3, zuP_1, zuP_2, zuP_3, zuC_1, zuC_2, reduceIte, Nat.reduceEqDiff, false_and, and_false, true_and, and_true, and_self, or_true, true_or, or_false, false_or] at e170
                    refine zs_iast (r := 2106) (pc := 171) C dX9_put_171 a_106 (by decide) (by omega) rfl (rg6_o (by omega)) (by omega) ?_
                    refine zs_aload_n (pc := 172) C dX9_put_172 rfl ?_
                    refine zs_iload_n (pc := 173) C dX9_put_173 rfl ?_
                    refine zs_bipush (pc := 174) C dX9_put_174 (by decide) (by decide) ?_
                    first | refine zs_iadd (pc := 176) C dX9_put_176 (by omega) ?_ | refine zs_iaddF (pc := 176) C dX9_put_176 (fun z176 hz1761 hz1762 => ?_)
                    refine zs_aload_n (pc := 177) C dX9_put_177 rfl ?_
                    refine zs_getf (pc := 178) C dX9_put_178 w_X9_115 f_10_60 (by decide) ?_
                    refine zs_iconst (pc := 181) C dX9_put_181 (by decide) ?_
                    refine zs_iald (r := 2090) (pc := 182) C dX9_put_182 a_90 (by decide) (by omega) rfl (r_2090 _) (fun v182 e182 l182 u182 => ?_)
                    try simp only [zuI_1, zuI_2, zuJ_1, zuJ_2, zuJ_3, zuP_1, zuP_2, zuP_3, zuC_1, zuC_2, reduceIte, Nat.reduceEqDiff, false_and, and_false, true_and, and_true, and_self, or_true, true_or, or_false, false_or] at e182
                    refine zs_iast (r := 2106) (pc := 183) C dX9_put_183 a_106 (by decide) (by omega) rfl (rg6_o (by omega)) (by omega) ?_
                    exact zs_vret (pc := 184) C hr hlk dX9_put_184 ⟨by repeat (first | exact zsm_rf | assumption | refine zsm_C (by decide) ?_ | refine zsm_I (by decide) ?_ | refine zsm_J ?_ | refine zsm_c (by assumption) (by decide) ?_), (by refine ⟨by rw [zuI_1, if_pos ⟨rfl, rfl, rfl⟩]; omega, fun j hj => ?_⟩; have h9 := h110_2 j hj; simp only [zuI_1, true_and]; (repeat (rw [if_neg (by omega)])); exact h9)⟩
                  · skip
                    refine zs_aload_n (pc := 116) C dX9_put_116 rfl ?_
                    refine zs_iload_n (pc := 117) C dX9_put_117 rfl ?_
                    refine zs_bipush (pc := 118) C dX9_put_118 (by decide) (by decide) ?_
                    first | refine zs_iadd (pc := 120) C dX9_put_120 (by omega) ?_ | refine zs_iaddF (pc := 120) C dX9_put_120 (fun z120 hz1201 hz1202 => ?_)
                    refine zs_iload_n (pc := 121) C dX9_put_121 rfl ?_
                    first | refine zs_iadd (pc := 122) C dX9_put_122 (by omega) ?_ | refine zs_iaddF (pc := 122) C dX9_put_122 (fun z122 hz1221 hz1222 => ?_)
                    refine zs_aload_n (pc := 123) C dX9_put_123 rfl ?_
                    refine zs_getf (pc := 124) C dX9_put_124 w_X9_127 f_10_65 (by decide) ?_
                    refine zs_iload_n (pc := 127) C dX9_put_127 rfl ?_
                    refine zs_iald (r := 2094) (pc := 128) C dX9_put_128 a_94 (by decide) (by omega) rfl (r_2094 _) (fun v128 e128 l128 u128 => ?_)
                    refine zs_iast (r := 2106) (pc := 129) C dX9_put_129 a_106 (by decide) (by omega) rfl (rg6_h (by omega)) (by omega) ?_
                    first | refine zs_iinc (pc := 130) C dX9_put_130 rfl (by decide) (by omega) ?_ | refine zs_iincF (pc := 130) C dX9_put_130 rfl (by decide) (fun z130 hz1301 hz1302 => ?_)
                    dsimp only [zset, zclr, znone]
                    refine zs_goto (tgt := 110) (pc := 133) C dX9_put_133 (by decide) ?_
                    exact zs_wk (ih110 _ _ (by omega) (by repeat (first | exact zsm_rf | assumption | refine zsm_C (by decide) ?_ | refine zsm_I (by decide) ?_ | refine zsm_J ?_ | refine zsm_c (by assumption) (by decide) ?_)) (fun j hj => by have h9 := h110_2 j hj; simp only [zuI_1, true_and]; (repeat (rw [if_neg (by omega)])); exact h9) (by first | omega | (simp only [zuI_1, zuI_2, zuJ_1, zuJ_2, zuJ_3, zuP_1, zuP_2, zuP_3, zuC_1, zuC_2, reduceIte, Nat.reduceEqDiff, false_and, and_false, true_and, and_true, and_self, or_true, true_or, or_false, false_or]; omega))) (zwk_s rfl (zwk_s rfl (zwk_s rfl (zwk_s rfl zwk_0))))
              exact zs_wk (L110 _ _ _ (by omega) (by repeat (first | exact zsm_rf | assumption | refine zsm_C (by decide) ?_ | refine zsm_I (by decide) ?_ | refine zsm_J ?_ | refine zsm_c (by assumption) (by decide) ?_)) h41_2 (Nat.lt_succ_self _)) (zwk_s rfl (zwk_s rfl (zwk_s rfl (zwk_s rfl zwk_0))))
            · skip
              refine zs_aload_n (pc := 46) C dX9_put_46 rfl ?_
              refine zs_iload_n (pc := 47) C dX9_put_47 rfl ?_
              refine zs_bipush (pc := 48) C dX9_put_48 (by decide) (by decide) ?_
              first | refine zs_iadd (pc := 50) C dX9_put_50 (by omega) ?_ | refine zs_iaddF (pc := 50) C dX9_put_50 (fun z50 hz501 hz502 => ?_)
              refine zs_iload_n (pc := 51) C dX9_put_51 rfl ?_
              first | refine zs_iadd (pc := 52) C dX9_put_52 (by omega) ?_ | refine zs_iaddF (pc := 52) C dX9_put_52 (fun z52 hz521 hz522 => ?_)
              refine zs_aload_n (pc := 53) C dX9_put_53 rfl ?_
              refine zs_getf (pc := 54) C dX9_put_54 w_X9_94 f_10_53 (by decide) ?_
              refine zs_iload_n (pc := 57) C dX9_put_57 rfl ?_
              refine zs_iald (r := 2083) (pc := 58) C dX9_put_58 a_83 (by decide) (by omega) rfl (r_2083 _) (fun v58 e58 l58 u58 => ?_)
              refine zs_iast (r := 2106) (pc := 59) C dX9_put_59 a_106 (by decide) (by omega) rfl (rg6_o (by omega)) (by omega) ?_
              refine zs_aload_n (pc := 60) C dX9_put_60 rfl ?_
              refine zs_iload_n (pc := 61) C dX9_put_61 rfl ?_
              refine zs_bipush (pc := 62) C dX9_put_62 (by decide) (by decide) ?_
              first | refine zs_iadd (pc := 64) C dX9_put_64 (by omega) ?_ | refine zs_iaddF (pc := 64) C dX9_put_64 (fun z64 hz641 hz642 => ?_)
              refine zs_iload_n (pc := 65) C dX9_put_65 rfl ?_
              first | refine zs_iadd (pc := 66) C dX9_put_66 (by omega) ?_ | refine zs_iaddF (pc := 66) C dX9_put_66 (fun z66 hz661 hz662 => ?_)
              refine zs_aload_n (pc := 67) C dX9_put_67 rfl ?_
              refine zs_getf (pc := 68) C dX9_put_68 w_X9_97 f_10_54 (by decide) ?_
              refine zs_iload_n (pc := 71) C dX9_put_71 rfl ?_
              refine zs_iald (r := 2084) (pc := 72) C dX9_put_72 a_84 (by decide) (by omega) rfl (r_2084 _) (fun v72 e72 l72 u72 => ?_)
              try simp only [zuI_1, zuI_2, zuJ_1, zuJ_2, zuJ_3, zuP_1, zuP_2, zuP_3, zuC_1, zuC_2, reduceIte, Nat.reduceEqDiff, false_and, and_false, true_and, and_true, and_self, or_true, true_or, or_false, false_or] at e72
              refine zs_iast (r := 2106) (pc := 73) C dX9_put_73 a_106 (by decide) (by omega) rfl (rg6_o (by omega)) (by omega) ?_
              refine zs_aload_n (pc := 74) C dX9_put_74 rfl ?_
              refine zs_iload_n (pc := 75) C dX9_put_75 rfl ?_
              refine zs_bipush (pc := 76) C dX9_put_76 (by decide) (by decide) ?_
              first | refine zs_iadd (pc := 78) C dX9_put_78 (by omega) ?_ | refine zs_iaddF (pc := 78) C dX9_put_78 (fun z78 hz781 hz782 => ?_)
              refine zs_iload_n (pc := 79) C dX9_put_79 rfl ?_
              first | refine zs_iadd (pc := 80) C dX9_put_80 (by omega) ?_ | refine zs_iaddF (pc := 80) C dX9_put_80 (fun z80 hz801 hz802 => ?_)
              refine zs_aload_n (pc := 81) C dX9_put_81 rfl ?_
              refine zs_getf (pc := 82) C dX9_put_82 w_X9_100 f_10_55 (by decide) ?_
              refine zs_iload_n (pc := 85) C dX9_put_85 rfl ?_
              refine zs_iald (r := 2085) (pc := 86) C dX9_put_86 a_85 (by decide) (by omega) rfl (r_2085 _) (fun v86 e86 l86 u86 => ?_)
              try simp only [zuI_1, zuI_2, zuJ_1, zuJ_2, zuJ_3, zuP_1, zuP_2, zuP_3, zuC_1, zuC_2, reduceIte, Nat.reduceEqDiff, false_and, and_false, true_and, and_true, and_self, or_true, true_or, or_false, false_or] at e86
              refine zs_iast (r := 2106) (pc := 87) C dX9_put_87 a_106 (by decide) (by omega) rfl (rg6_o (by omega)) (by omega) ?_
              refine zs_aload_n (pc := 88) C dX9_put_88 rfl ?_
              refine zs_iload_n (pc := 89) C dX9_put_89 rfl ?_
              refine zs_bipush (pc := 90) C dX9_put_90 (by decide) (by decide) ?_
              first | refine zs_iadd (pc := 92) C dX9_put_92 (by omega) ?_ | refine zs_iaddF (pc := 92) C dX9_put_92 (fun z92 hz921 hz922 => ?_)
              refine zs_iload_n (pc := 93) C dX9_put_93 rfl ?_
              first | refine zs_iadd (pc := 94) C dX9_put_94 (by omega) ?_ | refine zs_iaddF (pc := 94) C dX9_put_94 (fun z94 hz941 hz942 => ?_)
              refine zs_aload_n (pc := 95) C dX9_put_95 rfl ?_
              refine zs_getf (pc := 96) C dX9_put_96 w_X9_103 f_10_56 (by decide) ?_
              refine zs_iload_n (pc := 99) C dX9_put_99 rfl ?_
              refine zs_iald (r := 2086) (pc := 100) C dX9_put_100 a_86 (by decide) (by omega) rfl (r_2086 _) (fun v100 e100 l100 u100 => ?_)
              try simp only [zuI_1, zuI_2, zuJ_1, zuJ_2, zuJ_3, zuP_1, zuP_2, zuP_3, zuC_1, zuC_2, reduceIte, Nat.reduceEqDiff, false_and, and_false, true_and, and_true, and_self, or_true, true_or, or_false, false_or] at e100
              refine zs_iast (r := 2106) (pc := 101) C dX9_put_101 a_106 (by decide) (by omega) rfl (rg6_o (by omega)) (by omega) ?_
              first | refine zs_iinc (pc := 102) C dX9_put_102 rfl (by decide) (by omega) ?_ | refine zs_iincF (pc := 102) C dX9_put_102 rfl (by decide) (fun z102 hz1021 hz1022 => ?_)
              dsimp only [zset, zclr, znone]
              refine zs_goto (tgt := 41) (pc := 105) C dX9_put_105 (by decide) ?_
              exact zs_wk (ih41 _ _ (by omega) (by repeat (first | exact zsm_rf | assumption | refine zsm_C (by decide) ?_ | refine zsm_I (by decide) ?_ | refine zsm_J ?_ | refine zsm_c (by assumption) (by decide) ?_)) (fun j hj => by have h9 := h41_2 j hj; simp only [zuI_1, true_and]; (repeat (rw [if_neg (by omega)])); exact h9) (by first | omega | (simp only [zuI_1, zuI_2, zuJ_1, zuJ_2, zuJ_3, zuP_1, zuP_2, zuP_3, zuC_1, zuC_2, reduceIte, Nat.reduceEqDiff, false_and, and_false, true_and, and_true, and_self, or_true, true_or, or_false, false_or]; omega))) (zwk_s rfl (zwk_s rfl (zwk_s rfl (zwk_s rfl zwk_0))))
        exact zs_wk (L41 _ _ _ (by omega) (by repeat (first | exact zsm_rf | assumption | refine zsm_C (by decide) ?_ | refine zsm_I (by decide) ?_ | refine zsm_J ?_ | refine zsm_c (by assumption) (by decide) ?_)) h2_2 (Nat.lt_succ_self _)) (zwk_s rfl (zwk_s rfl (zwk_s rfl (zwk_s rfl zwk_0))))
      · skip
        refine zs_aload_n (pc := 8) C dX9_put_8 rfl ?_
        refine zs_iload_n (pc := 9) C dX9_put_9 rfl ?_
        refine zs_iload_n (pc := 10) C dX9_put_10 rfl ?_
        first | refine zs_iadd (pc := 11) C dX9_put_11 (by omega) ?_ | refine zs_iaddF (pc := 11) C dX9_put_11 (fun z11 hz111 hz112 => ?_)
        refine zs_aload_n (pc := 12) C dX9_put_12 rfl ?_
        refine zs_getf (pc := 13) C dX9_put_13 w_X9_88 f_10_51 (by decide) ?_
        refine zs_iload_n (pc := 16) C dX9_put_16 rfl ?_
        refine zs_iald (r := 2081) (pc := 17) C dX9_put_17 a_81 (by decide) (by omega) rfl (r_2081 _) (fun v17 e17 l17 u17 => ?_)
        refine zs_iast (r := 2106) (pc := 18) C dX9_put_18 a_106 (by decide) (by omega) rfl (rg6_o (by omega)) (by omega) ?_
        refine zs_aload_n (pc := 19) C dX9_put_19 rfl ?_
        refine zs_iload_n (pc := 20) C dX9_put_20 rfl ?_
        refine zs_bipush (pc := 21) C dX9_put_21 (by decide) (by decide) ?_
        first | refine zs_iadd (pc := 23) C dX9_put_23 (by omega) ?_ | refine zs_iaddF (pc := 23) C dX9_put_23 (fun z23 hz231 hz232 => ?_)
        refine zs_iload_n (pc := 24) C dX9_put_24 rfl ?_
        first | refine zs_iadd (pc := 25) C dX9_put_25 (by omega) ?_ | refine zs_iaddF (pc := 25) C dX9_put_25 (fun z25 hz251 hz252 => ?_)
        refine zs_aload_n (pc := 26) C dX9_put_26 rfl ?_
        refine zs_getf (pc := 27) C dX9_put_27 w_X9_91 f_10_52 (by decide) ?_
        refine zs_iload_n (pc := 30) C dX9_put_30 rfl ?_
        refine zs_iald (r := 2082) (pc := 31) C dX9_put_31 a_82 (by decide) (by omega) rfl (r_2082 _) (fun v31 e31 l31 u31 => ?_)
        try simp only [zuI_1, zuI_2, zuJ_1, zuJ_2, zuJ_3, zuP_1, zuP_2, zuP_3, zuC_1, zuC_2, reduceIte, Nat.reduceEqDiff, false_and, and_false, true_and, and_true, and_self, or_true, true_or, or_false, false_or] at e31
        refine zs_iast (r := 2106) (pc := 32) C dX9_put_32 a_106 (by decide) (by omega) rfl (rg6_o (by omega)) (by omega) ?_
        first | refine zs_iinc (pc := 33) C dX9_put_33 rfl (by decide) (by omega) ?_ | refine zs_iincF (pc := 33) C dX9_put_33 rfl (by decide) (fun z33 hz331 hz332 => ?_)
        dsimp only [zset, zclr, znone]
        refine zs_goto (tgt := 2) (pc := 36) C dX9_put_36 (by decide) ?_
        exact zs_wk (ih2 _ _ (by omega) (by repeat (first | exact zsm_rf | assumption | refine zsm_C (by decide) ?_ | refine zsm_I (by decide) ?_ | refine zsm_J ?_ | refine zsm_c (by assumption) (by decide) ?_)) (fun j hj => by have h9 := h2_2 j hj; simp only [zuI_1, true_and]; (repeat (rw [if_neg (by omega)])); exact h9) (by first | omega | (simp only [zuI_1, zuI_2, zuJ_1, zuJ_2, zuJ_3, zuP_1, zuP_2, zuP_3, zuC_1, zuC_2, reduceIte, Nat.reduceEqDiff, false_and, and_false, true_and, and_true, and_self, or_true, true_or, or_false, false_or]; omega))) (zwk_s rfl (zwk_s rfl (zwk_s rfl (zwk_s rfl zwk_0))))
  exact zs_wk (L2 _ _ _ (by omega) (by repeat (first | exact zsm_rf | assumption | refine zsm_C (by decide) ?_ | refine zsm_I (by decide) ?_ | refine zsm_J ?_ | refine zsm_c (by assumption) (by decide) ?_)) (fun j hj => rfl) (Nat.lt_succ_self _)) (zwk_s rfl (zwk_s rfl (zwk_s rfl (zwk_s rfl zwk_0))))

set_option maxHeartbeats 4000000 in
set_option maxRecDepth 100000 in
theorem c_X9_takeD6 {l : Launch} {Γ : zΓ} {G : zH} {w bb : Nat} {q : Int} (hX : zXs Γ) (hq : 0 ≤ q ∧ q ≤ 0 ∧ q % 127 = 0) : zMet l Γ yX9_take cX9_take 4 none 0 [zr 10 w, zr 106 bb, zi q] G (zpv (fun G' => zsm [2081, 2082, 2083, 2084, 2085, 2086, 2087, 2088, 2089, 2090, 2094] G G' ∧ (G'.1 2090 (Γ.2.1 w 60) (0 : Int).toNat = G.1 2106 bb (q + 123).toNat))) := by
  refine zMet_of RX9 hX (by decide) rfl (Nat.le_of_ble_eq_true rfl) ?_
  intro p e s m args below meth c C hr hlk
  show Z p l e (zrm 0) s m args below meth c Γ 4 0 0 (MQ below (zQc Γ (zpv (fun G' => zsm [2081, 2082, 2083, 2084, 2085, 2086, 2087, 2088, 2089, 2090, 2094] G G' ∧ (G'.1 2090 (Γ.2.1 w 60) (0 : Int).toNat = G.1 2106 bb (q + 123).toNat)))) args s 0 0 (zA Γ)) 0 [some (zr 10 w), some (zr 106 bb), some (zi q), none] [] G
  refine zs_loc 2 rfl (fun ha2 hb2 => ?_)
  refine zs_iconst (pc := 0) C dX9_take_0 (by decide) ?_
  refine zs_istore_n (pc := 1) C dX9_take_1 (by decide) ?_
  dsimp only [zset, zclr, znone]
  have L2 : ∀ (nn : Nat) (x3 : Int) (G1 : zH), (0 ≤ x3 ∧ x3 ≤ 20) → (zsm [2081, 2082, 2083, 2084, 2085, 2086, 2087, 2088, 2089, 2094] G G1) → (20 - x3).toNat < nn → Z p l e (zrm 0) s m args below meth c Γ 4 0 0 (MQ below (zQc Γ (zpv (fun G' => zsm [2081, 2082, 2083, 2084, 2085, 2086, 2087, 2088, 2089, 2090, 2094] G G' ∧ (G'.1 2090 (Γ.2.1 w 60) (0 : Int).toNat = G.1 2106 bb (q + 123).toNat)))) args s 0 0 (zA Γ)) 2 [some (zr 10 w), some (zr 106 bb), some (zi q), some (zi x3)] [] G1 := by
    intro nn
    induction nn with
    | zero => intro x3 G1 h2_0 h2_1 hm; exact absurd hm (Nat.not_lt_zero _)
    | succ nn ih2 =>
      intro x3 G1 h2_0 h2_1 hm2
      refine zs_iload_n (pc := 2) C dX9_take_2 rfl ?_
      refine zs_bipush (pc := 3) C dX9_take_3 (by decide) (by decide) ?_
      refine zs_icmp_ge (tgt := 39) (pc := 5) C dX9_take_5 (by decide) (fun h5 => ?_) (fun h5 => ?_)
      · skip
        refine zs_iconst (pc := 39) C dX9_take_39 (by decide) ?_
        refine zs_istore_n (pc := 40) C dX9_take_40 (by decide) ?_
        dsimp only [zset, zclr, znone]
        have L41 : ∀ (nn : Nat) (x3 : Int) (G2 : zH), (0 ≤ x3 ∧ x3 ≤ 5) → (zsm [2081, 2082, 2083, 2084, 2085, 2086, 2087, 2088, 2089, 2094] G G2) → (5 - x3).toNat < nn → Z p l e (zrm 0) s m args below meth c Γ 4 0 0 (MQ below (zQc Γ (zpv (fun G' => zsm [2081, 2082, 2083, 2084, 2085, 2086, 2087, 2088, 2089, 2090, 2094] G G' ∧ (G'.1 2090 (Γ.2.1 w 60) (0 : Int).toNat = G.1 2106 bb (q + 123).toNat)))) args s 0 0 (zA Γ)) 41 [some (zr 10 w), some (zr 106 bb), some (zi q), some (zi x3)] [] G2 := by
          intro nn
          induction nn with
          | zero => intro x3 G2 h41_0 h41_1 hm; exact absurd hm (Nat.not_lt_zero _)
          | succ nn ih41 =>
            intro x3 G2 h41_0 h41_1 hm41
            refine zs_iload_n (pc := 41) C dX9_take_41 rfl ?_
            refine zs_iconst (pc := 42) C dX9_take_42 (by decide) ?_
            refine zs_icmp_ge (tgt := 108) (pc := 43) C dX9_take_43 (by decide) (fun h43 => ?_) (fun h43 => ?_)
            · skip
              refine zs_iconst (pc := 108) C dX9_take_108 (by decide) ?_
              refine zs_istore_n (pc := 109) C dX9_take_109 (by decide) ?_
              dsimp only [zset, zclr, znone]
              have L110 : ∀ (nn : Nat) (x3 : Int) (G3 : zH), (0 ≤ x3 ∧ x3 ≤ 60) → (zsm [2081, 2082, 2083, 2084, 2085, 2086, 2087, 2088, 2089, 2094] G G3) → (60 - x3).toNat < nn → Z p l e (zrm 0) s m args below meth c Γ 4 0 0 (MQ below (zQc Γ (zpv (fun G' => zsm [2081, 2082, 2083, 2084, 2085, 2086, 2087, 2088, 2089, 2090, 2094] G G' ∧ (G'.1 2090 (Γ.2.1 w 60) (0 : Int).toNat = G.1 2106 bb (q + 123).toNat)))) args s 0 0 (zA Γ)) 110 [some (zr 10 w), some (zr 106 bb), some (zi q), some (zi x3)] [] G3 := by
                intro nn
                induction nn with
                | zero => intro x3 G3 h110_0 h110_1 hm; exact absurd hm (Nat.not_lt_zero _)
                | succ nn ih110 =>
                  intro x3 G3 h110_0 h110_1 hm110
                  refine zs_iload_n (pc := 110) C dX9_take_110 rfl ?_
                  refine zs_bipush (pc := 111) C dX9_take_111 (by decide) (by decide) ?_
                  refine zs_icmp_ge (tgt := 136) (pc := 113) C dX9_take_113 (by decide) (fun h113 => ?_) (fun h113 => ?_)
                  · skip
                    have t05 := zsm_at h110_1 2106 bb (q + 123).toNat (by decide)
                    refine zs_aload_n (pc := 136) C dX9_take_136 rfl ?_
                    refine zs_getf (pc := 137) C dX9_take_137 w_X9_106 f_10_57 (by decide) ?_
                    refine zs_iconst (pc := 140) C dX9_take_140 (by decide) ?_
                    refine zs_aload_n (pc := 141) C dX9_take_141 rfl ?_
                    refine zs_iload_n (pc := 142) C dX9_take_142 rfl ?_
                    refine zs_bipush (pc := 143) C dX9_take_143 (by decide) (by decide) ?_
                    first | refine zs_iadd (pc := 145) C dX9_take_145 (by omega) ?_ | refine zs_iaddF (pc := 145) C dX9_take_145 (fun z145 hz1451 hz1452 => ?_)
                    refine zs_iald (r := 2106) (pc := 146) C dX9_take_146 a_106 (by decide) (by omega) rfl (rg6_n (by omega)) (fun v146 e146 l146 u146 => ?_)
                    refine zs_iast (r := 2087) (pc := 147) C dX9_take_147 a_87 (by decide) (by omega) rfl (r_2087 _) (by omega) ?_
                    refine zs_aload_n (pc := 148) C dX9_take_148 rfl ?_
                    refine zs_getf (pc := 149) C dX9_take_149 w_X9_109 f_10_58 (by decide) ?_
                    refine zs_iconst (pc := 152) C dX9_take_152 (by decide) ?_
                    refine zs_aload_n (pc := 153) C dX9_take_153 rfl ?_
                    refine zs_iload_n (pc := 154) C dX9_take_154 rfl ?_
                    refine zs_bipush (pc := 155) C dX9_take_155 (by decide) (by decide) ?_
                    first | refine zs_iadd (pc := 157) C dX9_take_157 (by omega) ?_ | refine zs_iaddF (pc := 157) C dX9_take_157 (fun z157 hz1571 hz1572 => ?_)
                    refine zs_iald (r := 2106) (pc := 158) C dX9_take_158 a_106 (by decide) (by omega) rfl (rg6_o (by omega)) (fun v158 e158 l158 u158 => ?_)
                    try simp only [zuI_1, zuI_2, zuJ_1, zuJ_2, zuJ_3, zuP_1, zuP_2, zuP_3, zuC_1, zuC_2, reduceIte, Nat.reduceEqDiff, false_and, and_false, true_and, and_true, and_self, or_true, true_or, or_false, false_or] at e158
                    refine zs_iast (r := 2088) (pc := 159) C dX9_take_159 a_88 (by decide) (by omega) rfl (r_2088 _) (by omega) ?_
                    refine zs_aload_n (pc := 160) C dX9_take_160 rfl ?_
                    refine zs_getf (pc := 161) C dX9_take_161 w_X9_112 f_10_59 (by decide) ?_
                    refine zs_iconst (pc := 164) C dX9_take_164 (by decide) ?_
                    refine zs_aload_n (pc := 165) C dX9_take_165 rfl ?_
                    refine zs_iload_n (pc := 166) C dX9_take_166 rfl ?_
                    refine zs_bipush (pc := 167) C dX9_take_167 (by decide) (by decide) ?_
                    first | refine zs_iadd (pc := 169) C dX9_take_169 (by omega) ?_ | refine zs_iaddF (pc := 169) C dX9_take_169 (fun z169 hz1691 hz1692 => ?_)
                    refine zs_iald (r := 2106) (pc := 170) C dX9_take_170 a_106 (by decide) (by omega) rfl (rg6_o (by omega)) (fun v170 e170 l170 u170 => ?_)
                    try simp only [zuI_1, zuI_2, zuJ_1, zuJ_2, zuJ_3, zuP_1, zuP_2, zuP_3, zuC_1, zuC_2, reduceIte, Nat.reduceEqDiff, false_and, and_false, true_and, and_true, and_self, or_true, true_or, or_false, false_or] at e170
                    refine zs_iast (r := 2089) (pc := 171) C dX9_take_171 a_89 (by decide) (by omega) rfl (r_2089 _) (by omega) ?_
                    refine zs_aload_n (pc := 172) C dX9_take_172 rfl ?_
                    refine zs_getf (pc := 173) C dX9_take_173 w_X9_115 f_10_60 (by decide) ?_
                    refine zs_iconst (pc := 176) C dX9_take_176 (by decide) ?_
                    refine zs_aload_n (pc := 177) C dX9_take_177 rfl ?_
                    refine zs_iload_n (pc := 178) C dX9_take_178 rfl ?_
                    refine zs_bipush (pc := 179) C dX9_take_179 (by decide) (by decide) ?_
                    first | refine zs_iadd (pc := 181) C dX9_take_181 (by omega) ?_ | refine zs_iaddF (pc := 181) C dX9_take_181 (fun z181 hz1811 hz1812 => ?_)
                    refine zs_iald (r := 2106) (pc := 182) C dX9_take_182 a_106 (by decide) (by omega) rfl (rg6_o (by omega)) (fun v182 e182 l182 u182 => ?_)
                    try simp only [zuI_1, zuI_2, zuJ_1, zuJ_2, zuJ_3, zuP_1, zuP_2, zuP_3, zuC_1, zuC_2, reduceIte, Nat.reduceEqDiff, false_and, and_false, true_and, and_true, and_self, or_true, true_or, or_false, false_or] at e182
                    refine zs_iast (r := 2090) (pc := 183) C dX9_take_183 a_90 (by decide) (by omega) rfl (r_2090 _) (by omega) ?_
                    exact zs_vret (pc := 184) C hr hlk dX9_take_184 ⟨by repeat (first | exact zsm_rf | assumption | refine zsm_C (by decide) ?_ | refine zsm_I (by decide) ?_ | refine zsm_J ?_ | refine zsm_c (by assumption) (by decide) ?_), (by rw [zuI_1, if_pos ⟨rfl, rfl, rfl⟩]; omega)⟩
                  · skip
                    refine zs_aload_n (pc := 116) C dX9_take_116 rfl ?_
                    refine zs_getf (pc := 117) C dX9_take_117 w_X9_127 f_10_65 (by decide) ?_
                    refine zs_iload_n (pc := 120) C dX9_take_120 rfl ?_
                    refine zs_aload_n (pc := 121) C dX9_take_121 rfl ?_
                    refine zs_iload_n (pc := 122) C dX9_take_122 rfl ?_
                    refine zs_bipush (pc := 123) C dX9_take_123 (by decide) (by decide) ?_
                    first | refine zs_iadd (pc := 125) C dX9_take_125 (by omega) ?_ | refine zs_iaddF (pc := 125) C dX9_take_125 (fun z125 hz1251 hz1252 => ?_)
                    refine zs_iload_n (pc := 126) C dX9_take_126 rfl ?_
                    first | refine zs_iadd (pc := 127) C dX9_take_127 (by omega) ?_ | refine zs_iaddF (pc := 127) C dX9_take_127 (fun z127 hz1271 hz1272 => ?_)
                    refine zs_iald (r := 2106) (pc := 128) C dX9_take_128 a_106 (by decide) (by omega) rfl (rg6_h (by omega)) (fun v128 e128 l128 u128 => ?_)
                    refine zs_iast (r := 2094) (pc := 129) C dX9_take_129 a_94 (by decide) (by omega) rfl (r_2094 _) (by omega) ?_
                    first | refine zs_iinc (pc := 130) C dX9_take_130 rfl (by decide) (by omega) ?_ | refine zs_iincF (pc := 130) C dX9_take_130 rfl (by decide) (fun z130 hz1301 hz1302 => ?_)
                    dsimp only [zset, zclr, znone]
                    refine zs_goto (tgt := 110) (pc := 133) C dX9_take_133 (by decide) ?_
                    exact zs_wk (ih110 _ _ (by first | omega | (simp only [zuI_1, zuI_2, zuJ_1, zuJ_2, zuJ_3, zuP_1, zuP_2, zuP_3, zuC_1, zuC_2, reduceIte, Nat.reduceEqDiff, false_and, and_false, true_and, and_true, and_self, or_true, true_or, or_false, false_or]; omega)) (by repeat (first | exact zsm_rf | assumption | refine zsm_C (by decide) ?_ | refine zsm_I (by decide) ?_ | refine zsm_J ?_ | refine zsm_c (by assumption) (by decide) ?_)) (by first | omega | (simp only [zuI_1, zuI_2, zuJ_1, zuJ_2, zuJ_3, zuP_1, zuP_2, zuP_3, zuC_1, zuC_2, reduceIte, Nat.reduceEqDiff, false_and, and_false, true_and, and_true, and_self, or_true, true_or, or_false, false_or]; omega))) (zwk_s rfl (zwk_s rfl (zwk_s rfl (zwk_s rfl zwk_0))))
              exact zs_wk (L110 _ _ _ (by first | omega | (simp only [zuI_1, zuI_2, zuJ_1, zuJ_2, zuJ_3, zuP_1, zuP_2, zuP_3, zuC_1, zuC_2, reduceIte, Nat.reduceEqDiff, false_and, and_false, true_and, and_true, and_self, or_true, true_or, or_false, false_or]; omega)) (by repeat (first | exact zsm_rf | assumption | refine zsm_C (by decide) ?_ | refine zsm_I (by decide) ?_ | refine zsm_J ?_ | refine zsm_c (by assumption) (by decide) ?_)) (Nat.lt_succ_self _)) (zwk_s rfl (zwk_s rfl (zwk_s rfl (zwk_s rfl zwk_0))))
            · skip
              refine zs_aload_n (pc := 46) C dX9_take_46 rfl ?_
              refine zs_getf (pc := 47) C dX9_take_47 w_X9_94 f_10_53 (by decide) ?_
              refine zs_iload_n (pc := 50) C dX9_take_50 rfl ?_
              refine zs_aload_n (pc := 51) C dX9_take_51 rfl ?_
              refine zs_iload_n (pc := 52) C dX9_take_52 rfl ?_
              refine zs_bipush (pc := 53) C dX9_take_53 (by decide) (by decide) ?_
              first | refine zs_iadd (pc := 55) C dX9_take_55 (by omega) ?_ | refine zs_iaddF (pc := 55) C dX9_take_55 (fun z55 hz551 hz552 => ?_)
              refine zs_iload_n (pc := 56) C dX9_take_56 rfl ?_
              first | refine zs_iadd (pc := 57) C dX9_take_57 (by omega) ?_ | refine zs_iaddF (pc := 57) C dX9_take_57 (fun z57 hz571 hz572 => ?_)
              refine zs_iald (r := 2106) (pc := 58) C dX9_take_58 a_106 (by decide) (by omega) rfl (rg6_o (by omega)) (fun v58 e58 l58 u58 => ?_)
              refine zs_iast (r := 2083) (pc := 59) C dX9_take_59 a_83 (by decide) (by omega) rfl (r_2083 _) (by omega) ?_
              refine zs_aload_n (pc := 60) C dX9_take_60 rfl ?_
              refine zs_getf (pc := 61) C dX9_take_61 w_X9_97 f_10_54 (by decide) ?_
              refine zs_iload_n (pc := 64) C dX9_take_64 rfl ?_
              refine zs_aload_n (pc := 65) C dX9_take_65 rfl ?_
              refine zs_iload_n (pc := 66) C dX9_take_66 rfl ?_
              refine zs_bipush (pc := 67) C dX9_take_67 (by decide) (by decide) ?_
              first | refine zs_iadd (pc := 69) C dX9_take_69 (by omega) ?_ | refine zs_iaddF (pc := 69) C dX9_take_69 (fun z69 hz691 hz692 => ?_)
              refine zs_iload_n (pc := 70) C dX9_take_70 rfl ?_
              first | refine zs_iadd (pc := 71) C dX9_take_71 (by omega) ?_ | refine zs_iaddF (pc := 71) C dX9_take_71 (fun z71 hz711 hz712 => ?_)
              refine zs_iald (r := 2106) (pc := 72) C dX9_take_72 a_106 (by decide) (by omega) rfl (rg6_o (by omega)) (fun v72 e72 l72 u72 => ?_)
              try simp only [zuI_1, zuI_2, zuJ_1, zuJ_2, zuJ_3, zuP_1, zuP_2, zuP_3, zuC_1, zuC_2, reduceIte, Nat.reduceEqDiff, false_and, and_false, true_and, and_true, and_self, or_true, true_or, or_false, false_or] at e72
              refine zs_iast (r := 2084) (pc := 73) C dX9_take_73 a_84 (by decide) (by omega) rfl (r_2084 _) (by omega) ?_
              refine zs_aload_n (pc := 74) C dX9_take_74 rfl ?_
              refine zs_getf (pc := 75) C dX9_take_75 w_X9_100 f_10_55 (by decide) ?_
              refine zs_iload_n (pc := 78) C dX9_take_78 rfl ?_
              refine zs_aload_n (pc := 79) C dX9_take_79 rfl ?_
              refine zs_iload_n (pc := 80) C dX9_take_80 rfl ?_
              refine zs_bipush (pc := 81) C dX9_take_81 (by decide) (by decide) ?_
              first | refine zs_iadd (pc := 83) C dX9_take_83 (by omega) ?_ | refine zs_iaddF (pc := 83) C dX9_take_83 (fun z83 hz831 hz832 => ?_)
              refine zs_iload_n (pc := 84) C dX9_take_84 rfl ?_
              first | refine zs_iadd (pc := 85) C dX9_take_85 (by omega) ?_ | refine zs_iaddF (pc := 85) C dX9_take_85 (fun z85 hz851 hz852 => ?_)
              refine zs_iald (r := 2106) (pc := 86) C dX9_take_86 a_106 (by decide) (by omega) rfl (rg6_o (by omega)) (fun v86 e86 l86 u86 => ?_)
              try simp only [zuI_1, zuI_2, zuJ_1, zuJ_2, zuJ_3, zuP_1, zuP_2, zuP_3, zuC_1, zuC_2, reduceIte, Nat.reduceEqDiff, false_and, and_false, true_and, and_true, and_self, or_true, true_or, or_false, false_or] at e86
              refine zs_iast (r := 2085) (pc := 87) C dX9_take_87 a_85 (by decide) (by omega) rfl (r_2085 _) (by omega) ?_
              refine zs_aload_n (pc := 88) C dX9_take_88 rfl ?_
              refine zs_getf (pc := 89) C dX9_take_89 w_X9_103 f_10_56 (by decide) ?_
              refine zs_iload_n (pc := 92) C dX9_take_92 rfl ?_
              refine zs_aload_n (pc := 93) C dX9_take_93 rfl ?_
              refine zs_iload_n (pc := 94) C dX9_take_94 rfl ?_
              refine zs_bipush (pc := 95) C dX9_take_95 (by decide) (by decide) ?_
              first | refine zs_iadd (pc := 97) C dX9_take_97 (by omega) ?_ | refine zs_iaddF (pc := 97) C dX9_take_97 (fun z97 hz971 hz972 => ?_)
              refine zs_iload_n (pc := 98) C dX9_take_98 rfl ?_
              first | refine zs_iadd (pc := 99) C dX9_take_99 (by omega) ?_ | refine zs_iaddF (pc := 99) C dX9_take_99 (fun z99 hz991 hz992 => ?_)
              refine zs_iald (r := 2106) (pc := 100) C dX9_take_100 a_106 (by decide) (by omega) rfl (rg6_o (by omega)) (fun v100 e100 l100 u100 => ?_)
              try simp only [zuI_1, zuI_2, zuJ_1, zuJ_2, zuJ_3, zuP_1, zuP_2, zuP_3, zuC_1, zuC_2, reduceIte, Nat.reduceEqDiff, false_and, and_false, true_and, and_true, and_self, or_true, true_or, or_false, false_or] at e100
              refine zs_iast (r := 2086) (pc := 101) C dX9_take_101 a_86 (by decide) (by omega) rfl (r_2086 _) (by omega) ?_
              first | refine zs_iinc (pc := 102) C dX9_take_102 rfl (by decide) (by omega) ?_ | refine zs_iincF (pc := 102) C dX9_take_102 rfl (by decide) (fun z102 hz1021 hz1022 => ?_)
              dsimp only [zset, zclr, znone]
              refine zs_goto (tgt := 41) (pc := 105) C dX9_take_105 (by decide) ?_
              exact zs_wk (ih41 _ _ (by first | omega | (simp only [zuI_1, zuI_2, zuJ_1, zuJ_2, zuJ_3, zuP_1, zuP_2, zuP_3, zuC_1, zuC_2, reduceIte, Nat.reduceEqDiff, false_and, and_false, true_and, and_true, and_self, or_true, true_or, or_false, false_or]; omega)) (by repeat (first | exact zsm_rf | assumption | refine zsm_C (by decide) ?_ | refine zsm_I (by decide) ?_ | refine zsm_J ?_ | refine zsm_c (by assumption) (by decide) ?_)) (by first | omega | (simp only [zuI_1, zuI_2, zuJ_1, zuJ_2, zuJ_3, zuP_1, zuP_2, zuP_3, zuC_1, zuC_2, reduceIte, Nat.reduceEqDiff, false_and, and_false, true_and, and_true, and_self, or_true, true_or, or_false, false_or]; omega))) (zwk_s rfl (zwk_s rfl (zwk_s rfl (zwk_s rfl zwk_0))))
        exact zs_wk (L41 _ _ _ (by first | omega | (simp only [zuI_1, zuI_2, zuJ_1, zuJ_2, zuJ_3, zuP_1, zuP_2, zuP_3, zuC_1, zuC_2, reduceIte, Nat.reduceEqDiff, false_and, and_false, true_and, and_true, and_self, or_true, true_or, or_false, false_or]; omega)) (by repeat (first | exact zsm_rf | assumption | refine zsm_C (by decide) ?_ | refine zsm_I (by decide) ?_ | refine zsm_J ?_ | refine zsm_c (by assumption) (by decide) ?_)) (Nat.lt_succ_self _)) (zwk_s rfl (zwk_s rfl (zwk_s rfl (zwk_s rfl zwk_0))))
      · skip
        refine zs_aload_n (pc := 8) C dX9_take_8 rfl ?_
        refine zs_getf (pc := 9) C dX9_take_9 w_X9_88 f_10_51 (by decide) ?_
        refine zs_iload_n (pc := 12) C dX9_take_12 rfl ?_
        refine zs_aload_n (pc := 13) C dX9_take_13 rfl ?_
        refine zs_iload_n (pc := 14) C dX9_take_14 rfl ?_
        refine zs_iload_n (pc := 15) C dX9_take_15 rfl ?_
        first | refine zs_iadd (pc := 16) C dX9_take_16 (by omega) ?_ | refine zs_iaddF (pc := 16) C dX9_take_16 (fun z16 hz161 hz162 => ?_)
        refine zs_iald (r := 2106) (pc := 17) C dX9_take_17 a_106 (by decide) (by omega) rfl (rg6_o (by omega)) (fun v17 e17 l17 u17 => ?_)
        refine zs_iast (r := 2081) (pc := 18) C dX9_take_18 a_81 (by decide) (by omega) rfl (r_2081 _) (by omega) ?_
        refine zs_aload_n (pc := 19) C dX9_take_19 rfl ?_
        refine zs_getf (pc := 20) C dX9_take_20 w_X9_91 f_10_52 (by decide) ?_
        refine zs_iload_n (pc := 23) C dX9_take_23 rfl ?_
        refine zs_aload_n (pc := 24) C dX9_take_24 rfl ?_
        refine zs_iload_n (pc := 25) C dX9_take_25 rfl ?_
        refine zs_bipush (pc := 26) C dX9_take_26 (by decide) (by decide) ?_
        first | refine zs_iadd (pc := 28) C dX9_take_28 (by omega) ?_ | refine zs_iaddF (pc := 28) C dX9_take_28 (fun z28 hz281 hz282 => ?_)
        refine zs_iload_n (pc := 29) C dX9_take_29 rfl ?_
        first | refine zs_iadd (pc := 30) C dX9_take_30 (by omega) ?_ | refine zs_iaddF (pc := 30) C dX9_take_30 (fun z30 hz301 hz302 => ?_)
        refine zs_iald (r := 2106) (pc := 31) C dX9_take_31 a_106 (by decide) (by omega) rfl (rg6_o (by omega)) (fun v31 e31 l31 u31 => ?_)
        try simp only [zuI_1, zuI_2, zuJ_1, zuJ_2, zuJ_3, zuP_1, zuP_2, zuP_3, zuC_1, zuC_2, reduceIte, Nat.reduceEqDiff, false_and, and_false, true_and, and_true, and_self, or_true, true_or, or_false, false_or] at e31
        refine zs_iast (r := 2082) (pc := 32) C dX9_take_32 a_82 (by decide) (by omega) rfl (r_2082 _) (by omega) ?_
        first | refine zs_iinc (pc := 33) C dX9_take_33 rfl (by decide) (by omega) ?_ | refine zs_iincF (pc := 33) C dX9_take_33 rfl (by decide) (fun z33 hz331 hz332 => ?_)
        dsimp only [zset, zclr, znone]
        refine zs_goto (tgt := 2) (pc := 36) C dX9_take_36 (by decide) ?_
        exact zs_wk (ih2 _ _ (by first | omega | (simp only [zuI_1, zuI_2, zuJ_1, zuJ_2, zuJ_3, zuP_1, zuP_2, zuP_3, zuC_1, zuC_2, reduceIte, Nat.reduceEqDiff, false_and, and_false, true_and, and_true, and_self, or_true, true_or, or_false, false_or]; omega)) (by repeat (first | exact zsm_rf | assumption | refine zsm_C (by decide) ?_ | refine zsm_I (by decide) ?_ | refine zsm_J ?_ | refine zsm_c (by assumption) (by decide) ?_)) (by first | omega | (simp only [zuI_1, zuI_2, zuJ_1, zuJ_2, zuJ_3, zuP_1, zuP_2, zuP_3, zuC_1, zuC_2, reduceIte, Nat.reduceEqDiff, false_and, and_false, true_and, and_true, and_self, or_true, true_or, or_false, false_or]; omega))) (zwk_s rfl (zwk_s rfl (zwk_s rfl (zwk_s rfl zwk_0))))
  exact zs_wk (L2 _ _ _ (by first | omega | (simp only [zuI_1, zuI_2, zuJ_1, zuJ_2, zuJ_3, zuP_1, zuP_2, zuP_3, zuC_1, zuC_2, reduceIte, Nat.reduceEqDiff, false_and, and_false, true_and, and_true, and_self, or_true, true_or, or_false, false_or]; omega)) (by repeat (first | exact zsm_rf | assumption | refine zsm_C (by decide) ?_ | refine zsm_I (by decide) ?_ | refine zsm_J ?_ | refine zsm_c (by assumption) (by decide) ?_)) (Nat.lt_succ_self _)) (zwk_s rfl (zwk_s rfl (zwk_s rfl (zwk_s rfl zwk_0))))

set_option maxHeartbeats 4000000 in
set_option maxRecDepth 100000 in
theorem c_X9_rememberD {l : Launch} {Γ : zΓ} {G : zH} {w : Nat}  (hX : zXs Γ) (hB : ∀ u : Nat, (u : Int) < G.1 1084 w 0 → G.1 2105 (Γ.2.1 w 85) (127 * u + 123) = G.1 2090 (Γ.2.1 w 60) (0 : Int).toNat) : zMet l Γ yX9_remember cX9_remember 2 none 1 [zr 10 w] G (zpv (fun G' => zsm [2105, 1084] G G' ∧ (∀ u : Nat, (u : Int) < G'.1 1084 w 0 → G'.1 2105 (Γ.2.1 w 85) (127 * u + 123) = G.1 2090 (Γ.2.1 w 60) (0 : Int).toNat))) := by
  refine zMet_of RX9 hX (by decide) rfl (Nat.le_of_ble_eq_true rfl) ?_
  intro p e s m args below meth c C hr hlk
  show Z p l e (zrm 1) s m args below meth c Γ 2 0 0 (MQ below (zQc Γ (zpv (fun G' => zsm [2105, 1084] G G' ∧ (∀ u : Nat, (u : Int) < G'.1 1084 w 0 → G'.1 2105 (Γ.2.1 w 85) (127 * u + 123) = G.1 2090 (Γ.2.1 w 60) (0 : Int).toNat)))) args s 0 0 (zA Γ)) 0 [some (zr 10 w), none] [] G
  refine zs_aload_n (pc := 0) C dX9_remember_0 rfl ?_
  refine zs_geti (r := 1084) (pc := 1) C dX9_remember_1 w_X9_382 f_10_84 rfl (r_1084 0) (fun v1 e1 l1 u1 => ?_)
  refine zs_bipush (pc := 4) C dX9_remember_4 (by decide) (by decide) ?_
  refine zs_icmp_ne (tgt := 49) (pc := 6) C dX9_remember_6 (by decide) (fun h6 => ?_) (fun h6 => ?_)
  · skip
    refine zs_aload_n (pc := 49) C dX9_remember_49 rfl ?_
    refine zs_aload_n (pc := 50) C dX9_remember_50 rfl ?_
    refine zs_getf (pc := 51) C dX9_remember_51 w_X9_163 f_10_85 (by decide) ?_
    refine zs_bipush (pc := 54) C dX9_remember_54 (by decide) (by decide) ?_
    refine zs_aload_n (pc := 56) C dX9_remember_56 rfl ?_
    refine zs_geti (r := 1084) (pc := 57) C dX9_remember_57 w_X9_382 f_10_84 rfl (r_1084 0) (fun v57 e57 l57 u57 => ?_)
    first | refine zs_imul (pc := 60) C dX9_remember_60 (by omega) ?_ | refine zs_imulF (pc := 60) C dX9_remember_60 (fun z60 hz601 hz602 => ?_)
    refine zVv2 (pc := 61) C dX9_remember_61 v_X9_547 (c_X9_putD5 hX (by omega)) (by decide) (by decide) ⟨Nat.zero_le _, Nat.zero_le _⟩ (Nat.le_of_ble_eq_true rfl) (fun G61 hp61 => ?_)
    obtain ⟨hz61, hq61⟩ := hp61
    have t1084 := zsm_at hz61 1084 w 0 (by decide)
    try simp only [zuI_1, zuI_2, zuJ_1, zuJ_2, zuJ_3, zuP_1, zuP_2, zuP_3, zuC_1, zuC_2, reduceIte, Nat.reduceEqDiff, false_and, and_false, true_and, and_true, and_self, or_true, true_or, or_false, false_or] at t1084
    have hres : ∀ u : Nat, (u : Int) < v57 + 1 → G61.1 2105 (Γ.2.1 w 85) (127 * u + 123) = G.1 2090 (Γ.2.1 w 60) (0 : Int).toNat := by
      first
      | exact dB_put (by omega) (dB_sh h11_2 (by omega) hB (by omega) (by omega)) (hq61.1.trans (zsm_at h11_1 2090 _ _ (by decide))) hq61.2
      | exact dB_put (by omega) (fun u hu => hB u (by omega)) hq61.1 hq61.2
    refine zs_aload_n (pc := 64) C dX9_remember_64 rfl ?_
    refine zs_dupa (pc := 65) C dX9_remember_65 ?_
    refine zs_geti (r := 1084) (pc := 66) C dX9_remember_66 w_X9_382 f_10_84 rfl (r_1084 0) (fun v66 e66 l66 u66 => ?_)
    refine zs_iconst (pc := 69) C dX9_remember_69 (by decide) ?_
    first | refine zs_iadd (pc := 70) C dX9_remember_70 (by omega) ?_ | refine zs_iaddF (pc := 70) C dX9_remember_70 (fun z70 hz701 hz702 => ?_)
    refine zs_puti (r := 1084) (pc := 71) C dX9_remember_71 w_X9_382 f_10_84 rfl (r_1084 0) (by omega) ?_
    exact zs_vret (pc := 74) C hr hlk dX9_remember_74 ⟨by repeat (first | exact zsm_rf | assumption | refine zsm_C (by decide) ?_ | refine zsm_I (by decide) ?_ | refine zsm_J ?_ | refine zsm_c (by assumption) (by decide) ?_), (fun u hu => by simp only [zuI_1, zuI_2, zuJ_1, zuJ_2, zuJ_3, zuP_1, zuP_2, zuP_3, zuC_1, zuC_2, reduceIte, Nat.reduceEqDiff, false_and, and_false, true_and, and_true, and_self, or_true, true_or, or_false, false_or] at hu ⊢; exact hres u (by omega))⟩
  · skip
    refine zs_iconst (pc := 9) C dX9_remember_9 (by decide) ?_
    refine zs_istore_n (pc := 10) C dX9_remember_10 (by decide) ?_
    dsimp only [zset, zclr, znone]
    have L11 : ∀ (nn : Nat) (x1 : Int) (G1 : zH), (0 ≤ x1 ∧ x1 ≤ 2413) → (zsm [2105] G G1) → (∀ j : Nat, (j : Int) < x1 → G1.1 2105 (Γ.2.1 w 85) j = G.1 2105 (Γ.2.1 w 85) (j + 127)) → (∀ j : Nat, x1 ≤ (j : Int) → G1.1 2105 (Γ.2.1 w 85) j = G.1 2105 (Γ.2.1 w 85) j) → (2413 - x1).toNat < nn → Z p l e (zrm 1) s m args below meth c Γ 2 0 0 (MQ below (zQc Γ (zpv (fun G' => zsm [2105, 1084] G G' ∧ (∀ u : Nat, (u : Int) < G'.1 1084 w 0 → G'.1 2105 (Γ.2.1 w 85) (127 * u + 123) = G.1 2090 (Γ.2.1 w 60) (0 : Int).toNat)))) args s 0 0 (zA Γ)) 11 [some (zr 10 w), some (zi x1)] [] G1 := by
      intro nn
      induction nn with
      | zero => intro x1 G1 h11_0 h11_1 h11_2 h11_3 hm; exact absurd hm (Nat.not_lt_zero _)
      | succ nn ih11 =>
        intro x1 G1 h11_0 h11_1 h11_2 h11_3 hm11
        have t84 := zsm_at h11_1 1084 w 0 (by decide)
        refine zs_iload_n (pc := 11) C dX9_remember_11 rfl ?_
        refine zs_sipush (pc := 12) C dX9_remember_12 (by decide) (by decide) ?_
        refine zs_icmp_ge (tgt := 39) (pc := 15) C dX9_remember_15 (by decide) (fun h15 => ?_) (fun h15 => ?_)
        · skip
          refine zs_aload_n (pc := 39) C dX9_remember_39 rfl ?_
          refine zs_dupa (pc := 40) C dX9_remember_40 ?_
          refine zs_geti (r := 1084) (pc := 41) C dX9_remember_41 w_X9_382 f_10_84 rfl (r_1084 0) (fun v41 e41 l41 u41 => ?_)
          refine zs_iconst (pc := 44) C dX9_remember_44 (by decide) ?_
          first | refine zs_isub (pc := 45) C dX9_remember_45 (by omega) ?_ | refine zs_isubF (pc := 45) C dX9_remember_45 (fun z45 hz451 hz452 => ?_)
          refine zs_puti (r := 1084) (pc := 46) C dX9_remember_46 w_X9_382 f_10_84 rfl (r_1084 0) (by omega) ?_
          refine zs_aload_n (pc := 49) C dX9_remember_49 rfl ?_
          refine zs_aload_n (pc := 50) C dX9_remember_50 rfl ?_
          refine zs_getf (pc := 51) C dX9_remember_51 w_X9_163 f_10_85 (by decide) ?_
          refine zs_bipush (pc := 54) C dX9_remember_54 (by decide) (by decide) ?_
          refine zs_aload_n (pc := 56) C dX9_remember_56 rfl ?_
          refine zs_geti (r := 1084) (pc := 57) C dX9_remember_57 w_X9_382 f_10_84 rfl (r_1084 0) (fun v57 e57 l57 u57 => ?_)
          try simp only [zuI_1, zuI_2, zuJ_1, zuJ_2, zuJ_3, zuP_1, zuP_2, zuP_3, zuC_1, zuC_2, reduceIte, Nat.reduceEqDiff, false_and, and_false, true_and, and_true, and_self, or_true, true_or, or_false, false_or] at e57
          first | refine zs_imul (pc := 60) C dX9_remember_60 (by omega) ?_ | refine zs_imulF (pc := 60) C dX9_remember_60 (fun z60 hz601 hz602 => ?_)
          refine zVv2 (pc := 61) C dX9_remember_61 v_X9_547 (c_X9_putD5 hX (by first | omega | (simp only [zuI_1, zuI_2, zuJ_1, zuJ_2, zuJ_3, zuP_1, zuP_2, zuP_3, zuC_1, zuC_2, reduceIte, Nat.reduceEqDiff, false_and, and_false, true_and, and_true, and_self, or_true, true_or, or_false, false_or]; omega))) (by decide) (by decide) ⟨Nat.zero_le _, Nat.zero_le _⟩ (Nat.le_of_ble_eq_true rfl) (fun G61 hp61 => ?_)
          obtain ⟨hz61, hq61⟩ := hp61
          try simp only [zuI_1, zuI_2, zuJ_1, zuJ_2, zuJ_3, zuP_1, zuP_2, zuP_3, zuC_1, zuC_2, reduceIte, Nat.reduceEqDiff, false_and, and_false, true_and, and_true, and_self, or_true, true_or, or_false, false_or] at hq61
          have t1084 := zsm_at hz61 1084 w 0 (by decide)
          try simp only [zuI_1, zuI_2, zuJ_1, zuJ_2, zuJ_3, zuP_1, zuP_2, zuP_3, zuC_1, zuC_2, reduceIte, Nat.reduceEqDiff, false_and, and_false, true_and, and_true, and_self, or_true, true_or, or_false, false_or] at t1084
          have hres : ∀ u : Nat, (u : Int) < v57 + 1 → G61.1 2105 (Γ.2.1 w 85) (127 * u + 123) = G.1 2090 (Γ.2.1 w 60) (0 : Int).toNat := by
            first
            | exact dB_put (by omega) (dB_sh h11_2 (by omega) hB (by omega) (by omega)) (hq61.1.trans (zsm_at h11_1 2090 _ _ (by decide))) hq61.2
            | exact dB_put (by omega) (fun u hu => hB u (by omega)) hq61.1 hq61.2
          refine zs_aload_n (pc := 64) C dX9_remember_64 rfl ?_
          refine zs_dupa (pc := 65) C dX9_remember_65 ?_
          refine zs_geti (r := 1084) (pc := 66) C dX9_remember_66 w_X9_382 f_10_84 rfl (r_1084 0) (fun v66 e66 l66 u66 => ?_)
          refine zs_iconst (pc := 69) C dX9_remember_69 (by decide) ?_
          first | refine zs_iadd (pc := 70) C dX9_remember_70 (by omega) ?_ | refine zs_iaddF (pc := 70) C dX9_remember_70 (fun z70 hz701 hz702 => ?_)
          refine zs_puti (r := 1084) (pc := 71) C dX9_remember_71 w_X9_382 f_10_84 rfl (r_1084 0) (by omega) ?_
          exact zs_vret (pc := 74) C hr hlk dX9_remember_74 ⟨by repeat (first | exact zsm_rf | assumption | refine zsm_C (by decide) ?_ | refine zsm_I (by decide) ?_ | refine zsm_J ?_ | refine zsm_c (by assumption) (by decide) ?_), (fun u hu => by simp only [zuI_1, zuI_2, zuJ_1, zuJ_2, zuJ_3, zuP_1, zuP_2, zuP_3, zuC_1, zuC_2, reduceIte, Nat.reduceEqDiff, false_and, and_false, true_and, and_true, and_self, or_true, true_or, or_false, false_or] at hu ⊢; exact hres u (by omega))⟩
        · skip
          refine zs_aload_n (pc := 18) C dX9_remember_18 rfl ?_
          refine zs_getf (pc := 19) C dX9_remember_19 w_X9_163 f_10_85 (by decide) ?_
          refine zs_iload_n (pc := 22) C dX9_remember_22 rfl ?_
          refine zs_aload_n (pc := 23) C dX9_remember_23 rfl ?_
          refine zs_getf (pc := 24) C dX9_remember_24 w_X9_163 f_10_85 (by decide) ?_
          refine zs_iload_n (pc := 27) C dX9_remember_27 rfl ?_
          refine zs_bipush (pc := 28) C dX9_remember_28 (by decide) (by decide) ?_
          first | refine zs_iadd (pc := 30) C dX9_remember_30 (by omega) ?_ | refine zs_iaddF (pc := 30) C dX9_remember_30 (fun z30 hz301 hz302 => ?_)
          refine zs_iald (r := 2105) (pc := 31) C dX9_remember_31 a_105 (by decide) (by omega) rfl (show zrg 2105 (x1 + 127).toNat = ((zrg 2105 (x1 + 127).toNat).1, (zrg 2105 (x1 + 127).toNat).2) from rfl) (fun v31 e31 l31 u31 => ?_)
          have w31 := e31
          rw [rg5_sh (by omega)] at l31 u31
          refine zs_iast (r := 2105) (pc := 32) C dX9_remember_32 a_105 (by decide) (by omega) rfl (show zrg 2105 (x1).toNat = ((zrg 2105 (x1).toNat).1, (zrg 2105 (x1).toNat).2) from rfl) (by omega) ?_
          first | refine zs_iinc (pc := 33) C dX9_remember_33 rfl (by decide) (by omega) ?_ | refine zs_iincF (pc := 33) C dX9_remember_33 rfl (by decide) (fun z33 hz331 hz332 => ?_)
          dsimp only [zset, zclr, znone]
          refine zs_goto (tgt := 11) (pc := 36) C dX9_remember_36 (by decide) ?_
          exact zs_wk (ih11 _ _ (by omega) (by repeat (first | exact zsm_rf | assumption | refine zsm_C (by decide) ?_ | refine zsm_I (by decide) ?_ | refine zsm_J ?_ | refine zsm_c (by assumption) (by decide) ?_)) (fun j hj => by simp only [zuI_1, true_and]; by_cases q : j = x1.toNat; (rw [if_pos q, w31, h11_3 _ (by omega), show (x1 + 127).toNat = j + 127 by omega]); (rw [if_neg q]; exact h11_2 j (by omega))) (fun j hj => by simp only [zuI_1, true_and]; rw [if_neg (by omega)]; exact h11_3 j (by omega)) (by first | omega | (simp only [zuI_1, zuI_2, zuJ_1, zuJ_2, zuJ_3, zuP_1, zuP_2, zuP_3, zuC_1, zuC_2, reduceIte, Nat.reduceEqDiff, false_and, and_false, true_and, and_true, and_self, or_true, true_or, or_false, false_or]; omega))) (zwk_s rfl (zwk_s rfl zwk_0))
    exact zs_wk (L11 _ _ _ (by omega) zsm_rf (fun j hj => by omega) (fun j hj => rfl) (Nat.lt_succ_self _)) (zwk_s rfl (zwk_s rfl zwk_0))

set_option maxHeartbeats 4000000 in
set_option maxRecDepth 100000 in
theorem c_X9_undoD {l : Launch} {Γ : zΓ} {G : zH} {w : Nat}  (hX : zXs Γ) (hB : ∀ u : Nat, (u : Int) < G.1 1084 w 0 → G.1 2105 (Γ.2.1 w 85) (127 * u + 123) = G.1 2090 (Γ.2.1 w 60) (0 : Int).toNat) : zMet l Γ yX9_undo cX9_undo 1 (some .int) 1 [zr 10 w] G (zpi (fun x G' => zsm [2081, 2082, 2083, 2084, 2085, 2086, 2087, 2088, 2089, 2090, 2094, 1002, 1084] G G' ∧ (G'.1 2090 (Γ.2.1 w 60) (0 : Int).toNat = G.1 2090 (Γ.2.1 w 60) (0 : Int).toNat ∧ G'.1 1084 w 0 ≤ G.1 1084 w 0))) := by
  refine zMet_of RX9 hX (by decide) rfl (Nat.le_of_ble_eq_true rfl) ?_
  intro p e s m args below meth c C hr hlk
  show Z p l e (zrm 1) s m args below meth c Γ 1 0 0 (MQ below (zQc Γ (zpi (fun x G' => zsm [2081, 2082, 2083, 2084, 2085, 2086, 2087, 2088, 2089, 2090, 2094, 1002, 1084] G G' ∧ (G'.1 2090 (Γ.2.1 w 60) (0 : Int).toNat = G.1 2090 (Γ.2.1 w 60) (0 : Int).toNat ∧ G'.1 1084 w 0 ≤ G.1 1084 w 0)))) args s 0 0 (zA Γ)) 0 [some (zr 10 w)] [] G
  refine zs_aload_n (pc := 0) C dX9_undo_0 rfl ?_
  refine zs_iconst (pc := 1) C dX9_undo_1 (by decide) ?_
  refine zs_puti (r := 1002) (pc := 2) C dX9_undo_2 w_X9_178 f_10_2 rfl (r_1002 0) (by omega) ?_
  refine zs_aload_n (pc := 5) C dX9_undo_5 rfl ?_
  refine zs_geti (r := 1084) (pc := 6) C dX9_undo_6 w_X9_382 f_10_84 rfl (r_1084 0) (fun v6 e6 l6 u6 => ?_)
  try simp only [zuI_1, zuI_2, zuJ_1, zuJ_2, zuJ_3, zuP_1, zuP_2, zuP_3, zuC_1, zuC_2, reduceIte, Nat.reduceEqDiff, false_and, and_false, true_and, and_true, and_self, or_true, true_or, or_false, false_or] at e6
  refine zs_if_ne (tgt := 14) (pc := 9) C dX9_undo_9 (by decide) (fun h9 => ?_) (fun h9 => ?_)
  · skip
    refine zs_aload_n (pc := 14) C dX9_undo_14 rfl ?_
    refine zs_dupa (pc := 15) C dX9_undo_15 ?_
    refine zs_geti (r := 1084) (pc := 16) C dX9_undo_16 w_X9_382 f_10_84 rfl (r_1084 0) (fun v16 e16 l16 u16 => ?_)
    try simp only [zuI_1, zuI_2, zuJ_1, zuJ_2, zuJ_3, zuP_1, zuP_2, zuP_3, zuC_1, zuC_2, reduceIte, Nat.reduceEqDiff, false_and, and_false, true_and, and_true, and_self, or_true, true_or, or_false, false_or] at e16
    refine zs_iconst (pc := 19) C dX9_undo_19 (by decide) ?_
    first | refine zs_isub (pc := 20) C dX9_undo_20 (by omega) ?_ | refine zs_isubF (pc := 20) C dX9_undo_20 (fun z20 hz201 hz202 => ?_)
    refine zs_puti (r := 1084) (pc := 21) C dX9_undo_21 w_X9_382 f_10_84 rfl (r_1084 0) (by omega) ?_
    refine zs_aload_n (pc := 24) C dX9_undo_24 rfl ?_
    refine zs_aload_n (pc := 25) C dX9_undo_25 rfl ?_
    refine zs_getf (pc := 26) C dX9_undo_26 w_X9_163 f_10_85 (by decide) ?_
    refine zs_bipush (pc := 29) C dX9_undo_29 (by decide) (by decide) ?_
    refine zs_aload_n (pc := 31) C dX9_undo_31 rfl ?_
    refine zs_geti (r := 1084) (pc := 32) C dX9_undo_32 w_X9_382 f_10_84 rfl (r_1084 0) (fun v32 e32 l32 u32 => ?_)
    try simp only [zuI_1, zuI_2, zuJ_1, zuJ_2, zuJ_3, zuP_1, zuP_2, zuP_3, zuC_1, zuC_2, reduceIte, Nat.reduceEqDiff, false_and, and_false, true_and, and_true, and_self, or_true, true_or, or_false, false_or] at e32
    first | refine zs_imul (pc := 35) C dX9_undo_35 (by omega) ?_ | refine zs_imulF (pc := 35) C dX9_undo_35 (fun z35 hz351 hz352 => ?_)
    refine zVv2 (pc := 36) C dX9_undo_36 v_X9_550 (c_X9_takeD5 hX (by first | omega | (simp only [zuI_1, zuI_2, zuJ_1, zuJ_2, zuJ_3, zuP_1, zuP_2, zuP_3, zuC_1, zuC_2, reduceIte, Nat.reduceEqDiff, false_and, and_false, true_and, and_true, and_self, or_true, true_or, or_false, false_or]; omega))) (by decide) (by decide) ⟨Nat.zero_le _, Nat.zero_le _⟩ (Nat.le_of_ble_eq_true rfl) (fun G36 hp36 => ?_)
    obtain ⟨hz36, hq36⟩ := hp36
    try simp only [zuI_1, zuI_2, zuJ_1, zuJ_2, zuJ_3, zuP_1, zuP_2, zuP_3, zuC_1, zuC_2, reduceIte, Nat.reduceEqDiff, false_and, and_false, true_and, and_true, and_self, or_true, true_or, or_false, false_or] at hq36
    have hb9 := hB v32.toNat (by omega)
    rw [show 127 * v32.toNat + 123 = (127 * v32 + 123).toNat by omega] at hb9
    have t84 := zsm_at hz36 1084 w 0 (by decide)
    try simp only [zuI_1, zuI_2, zuJ_1, zuJ_2, zuJ_3, zuP_1, zuP_2, zuP_3, zuC_1, zuC_2, reduceIte, Nat.reduceEqDiff, false_and, and_false, true_and, and_true, and_self, or_true, true_or, or_false, false_or] at t84
    refine zs_aload_n (pc := 39) C dX9_undo_39 rfl ?_
    refine zs_geti (r := 1084) (pc := 40) C dX9_undo_40 w_X9_382 f_10_84 rfl (r_1084 0) (fun v40 e40 l40 u40 => ?_)
    exact zs_iret (pc := 43) C hr hlk dX9_undo_43 ⟨by repeat (first | exact zsm_rf | assumption | refine zsm_C (by decide) ?_ | refine zsm_I (by decide) ?_ | refine zsm_J ?_ | refine zsm_c (by assumption) (by decide) ?_), by first | omega | (simp only [zuI_1, zuI_2, zuJ_1, zuJ_2, zuJ_3, zuP_1, zuP_2, zuP_3, zuC_1, zuC_2, reduceIte, Nat.reduceEqDiff, false_and, and_false, true_and, and_true, and_self, or_true, true_or, or_false, false_or]; omega)⟩
  · skip
    refine zs_iconst (pc := 12) C dX9_undo_12 (by decide) ?_
    exact zs_iret (pc := 13) C hr hlk dX9_undo_13 ⟨by repeat (first | exact zsm_rf | assumption | refine zsm_C (by decide) ?_ | refine zsm_I (by decide) ?_ | refine zsm_J ?_ | refine zsm_c (by assumption) (by decide) ?_), by first | omega | (simp only [zuI_1, zuI_2, zuJ_1, zuJ_2, zuJ_3, zuP_1, zuP_2, zuP_3, zuC_1, zuC_2, reduceIte, Nat.reduceEqDiff, false_and, and_false, true_and, and_true, and_self, or_true, true_or, or_false, false_or]; omega)⟩

set_option maxHeartbeats 4000000 in
set_option maxRecDepth 100000 in
theorem c_X9_keepD {l : Launch} {Γ : zΓ} {G : zH} {w : Nat}  (hX : zXs Γ)  : zMet l Γ yX9_keep cX9_keep 2 (some .int) 1 [zr 10 w] G (zpi (fun x G' => zsm [2106, 2107, 1086, 1087, 1002] G G' ∧ (x = G.1 2090 (Γ.2.1 w 60) (0 : Int).toNat ∧ G'.1 1086 w 0 = 1 ∧ G'.1 2106 (Γ.2.1 w 89) (0 + 123 : Int).toNat = G.1 2090 (Γ.2.1 w 60) (0 : Int).toNat))) := by
  refine zMet_of RX9 hX (by decide) rfl (Nat.le_of_ble_eq_true rfl) ?_
  intro p e s m args below meth c C hr hlk
  show Z p l e (zrm 1) s m args below meth c Γ 2 0 0 (MQ below (zQc Γ (zpi (fun x G' => zsm [2106, 2107, 1086, 1087, 1002] G G' ∧ (x = G.1 2090 (Γ.2.1 w 60) (0 : Int).toNat ∧ G'.1 1086 w 0 = 1 ∧ G'.1 2106 (Γ.2.1 w 89) (0 + 123 : Int).toNat = G.1 2090 (Γ.2.1 w 60) (0 : Int).toNat)))) args s 0 0 (zA Γ)) 0 [some (zr 10 w), none] [] G
  refine zs_aload_n (pc := 0) C dX9_keep_0 rfl ?_
  refine zs_iconst (pc := 1) C dX9_keep_1 (by decide) ?_
  refine zs_puti (r := 1002) (pc := 2) C dX9_keep_2 w_X9_178 f_10_2 rfl (r_1002 0) (by omega) ?_
  refine zs_aload_n (pc := 5) C dX9_keep_5 rfl ?_
  refine zs_iconst (pc := 6) C dX9_keep_6 (by decide) ?_
  refine zs_putz (r := 1086) (pc := 7) C dX9_keep_7 w_X9_385 f_10_86 rfl (r_1086 0) (by omega) (by omega) ?_
  refine zs_aload_n (pc := 10) C dX9_keep_10 rfl ?_
  refine zs_aload_n (pc := 11) C dX9_keep_11 rfl ?_
  refine zs_getj (r := 1061) (pc := 12) C dX9_keep_12 w_X9_375 f_10_61 rfl (fun v12 e12 l12 u12 => ?_)
  try simp only [zuI_1, zuI_2, zuJ_1, zuJ_2, zuJ_3, zuP_1, zuP_2, zuP_3, zuC_1, zuC_2, reduceIte, Nat.reduceEqDiff, false_and, and_false, true_and, and_true, and_self, or_true, true_or, or_false, false_or] at e12
  refine zs_putj (r := 1088) (pc := 15) C dX9_keep_15 w_X9_553 f_10_88 rfl ?_
  refine zs_aload_n (pc := 18) C dX9_keep_18 rfl ?_
  refine zs_aload_n (pc := 19) C dX9_keep_19 rfl ?_
  refine zs_geti (r := 1083) (pc := 20) C dX9_keep_20 w_X9_379 f_10_83 rfl (r_1083 0) (fun v20 e20 l20 u20 => ?_)
  try simp only [zuI_1, zuI_2, zuJ_1, zuJ_2, zuJ_3, zuP_1, zuP_2, zuP_3, zuC_1, zuC_2, reduceIte, Nat.reduceEqDiff, false_and, and_false, true_and, and_true, and_self, or_true, true_or, or_false, false_or] at e20
  refine zs_puti (r := 1087) (pc := 23) C dX9_keep_23 w_X9_556 f_10_87 rfl (r_1087 0) (by omega) ?_
  refine zs_aload_n (pc := 26) C dX9_keep_26 rfl ?_
  refine zs_aload_n (pc := 27) C dX9_keep_27 rfl ?_
  refine zs_getf (pc := 28) C dX9_keep_28 w_X9_166 f_10_89 (by decide) ?_
  refine zs_iconst (pc := 31) C dX9_keep_31 (by decide) ?_
  refine zVv2 (pc := 32) C dX9_keep_32 v_X9_547 (c_X9_putD6 hX (by first | omega | (simp only [zuI_1, zuI_2, zuJ_1, zuJ_2, zuJ_3, zuP_1, zuP_2, zuP_3, zuC_1, zuC_2, reduceIte, Nat.reduceEqDiff, false_and, and_false, true_and, and_true, and_self, or_true, true_or, or_false, false_or]; omega))) (by decide) (by decide) ⟨Nat.zero_le _, Nat.zero_le _⟩ (Nat.le_of_ble_eq_true rfl) (fun G32 hp32 => ?_)
  obtain ⟨hz32, hq32⟩ := hp32
  try simp only [zuI_1, zuI_2, zuJ_1, zuJ_2, zuJ_3, zuP_1, zuP_2, zuP_3, zuC_1, zuC_2, reduceIte, Nat.reduceEqDiff, false_and, and_false, true_and, and_true, and_self, or_true, true_or, or_false, false_or] at hq32
  have t86 := zsm_at hz32 1086 w 0 (by decide)
  try simp only [zuI_1, zuI_2, zuJ_1, zuJ_2, zuJ_3, zuP_1, zuP_2, zuP_3, zuC_1, zuC_2, reduceIte, Nat.reduceEqDiff, false_and, and_false, true_and, and_true, and_self, or_true, true_or, or_false, false_or] at t86
  have t90 := zsm_at hz32 2090 (Γ.2.1 w 60) (0 : Int).toNat (by decide)
  try simp only [zuI_1, zuI_2, zuJ_1, zuJ_2, zuJ_3, zuP_1, zuP_2, zuP_3, zuC_1, zuC_2, reduceIte, Nat.reduceEqDiff, false_and, and_false, true_and, and_true, and_self, or_true, true_or, or_false, false_or] at t90
  refine zs_iconst (pc := 35) C dX9_keep_35 (by decide) ?_
  refine zs_istore_n (pc := 36) C dX9_keep_36 (by decide) ?_
  dsimp only [zset, zclr, znone]
  have L37 : ∀ (nn : Nat) (x1 : Int) (G1 : zH), (0 ≤ x1 ∧ x1 ≤ 60) → (zsm [2106, 2107, 1086, 1087, 1002] G G1) → (zsm [2107] G32 G1) → (60 - x1).toNat < nn → Z p l e (zrm 1) s m args below meth c Γ 2 0 0 (MQ below (zQc Γ (zpi (fun x G' => zsm [2106, 2107, 1086, 1087, 1002] G G' ∧ (x = G.1 2090 (Γ.2.1 w 60) (0 : Int).toNat ∧ G'.1 1086 w 0 = 1 ∧ G'.1 2106 (Γ.2.1 w 89) (0 + 123 : Int).toNat = G.1 2090 (Γ.2.1 w 60) (0 : Int).toNat)))) args s 0 0 (zA Γ)) 37 [some (zr 10 w), some (zi x1)] [] G1 := by
    intro nn
    induction nn with
    | zero => intro x1 G1 h37_0 h37_1 h37_2 hm; exact absurd hm (Nat.not_lt_zero _)
    | succ nn ih37 =>
      intro x1 G1 h37_0 h37_1 h37_2 hm37
      have s86 := zsm_at h37_2 1086 w 0 (by decide)
      have s06 := zsm_at h37_2 2106 (Γ.2.1 w 89) (0 + 123 : Int).toNat (by decide)
      have s90 := zsm_at h37_2 2090 (Γ.2.1 w 60) (0 : Int).toNat (by decide)
      refine zs_iload_n (pc := 37) C dX9_keep_37 rfl ?_
      refine zs_bipush (pc := 38) C dX9_keep_38 (by decide) (by decide) ?_
      refine zs_icmp_ge (tgt := 187) (pc := 40) C dX9_keep_40 (by decide) (fun h40 => ?_) (fun h40 => ?_)
      · skip
        refine zs_aload_n (pc := 187) C dX9_keep_187 rfl ?_
        refine zs_getf (pc := 188) C dX9_keep_188 w_X9_115 f_10_60 (by decide) ?_
        refine zs_iconst (pc := 191) C dX9_keep_191 (by decide) ?_
        refine zs_iald (r := 2090) (pc := 192) C dX9_keep_192 a_90 (by decide) (by omega) rfl (r_2090 _) (fun v192 e192 l192 u192 => ?_)
        exact zs_iret (pc := 193) C hr hlk dX9_keep_193 ⟨by repeat (first | exact zsm_rf | assumption | refine zsm_C (by decide) ?_ | refine zsm_I (by decide) ?_ | refine zsm_J ?_ | refine zsm_c (by assumption) (by decide) ?_), by first | omega | (simp only [zuI_1, zuI_2, zuJ_1, zuJ_2, zuJ_3, zuP_1, zuP_2, zuP_3, zuC_1, zuC_2, reduceIte, Nat.reduceEqDiff, false_and, and_false, true_and, and_true, and_self, or_true, true_or, or_false, false_or]; omega)⟩
      · skip
        refine zs_aload_n (pc := 43) C dX9_keep_43 rfl ?_
        refine zs_getf (pc := 44) C dX9_keep_44 w_X9_169 f_10_90 (by decide) ?_
        refine zs_iload_n (pc := 47) C dX9_keep_47 rfl ?_
        refine zs_aload_n (pc := 48) C dX9_keep_48 rfl ?_
        refine zs_getf (pc := 49) C dX9_keep_49 w_X9_118 f_10_62 (by decide) ?_
        refine zs_iload_n (pc := 52) C dX9_keep_52 rfl ?_
        refine zs_iald (r := 2091) (pc := 53) C dX9_keep_53 a_91 (by decide) (by omega) rfl (r_2091 _) (fun v53 e53 l53 u53 => ?_)
        refine zs_iast (r := 2107) (pc := 54) C dX9_keep_54 a_107 (by decide) (by omega) rfl (rg7_a (by omega)) (by omega) ?_
        refine zs_aload_n (pc := 55) C dX9_keep_55 rfl ?_
        refine zs_getf (pc := 56) C dX9_keep_56 w_X9_169 f_10_90 (by decide) ?_
        refine zs_bipush (pc := 59) C dX9_keep_59 (by decide) (by decide) ?_
        refine zs_iload_n (pc := 61) C dX9_keep_61 rfl ?_
        first | refine zs_iadd (pc := 62) C dX9_keep_62 (by omega) ?_ | refine zs_iaddF (pc := 62) C dX9_keep_62 (fun z62 hz621 hz622 => ?_)
        refine zs_aload_n (pc := 63) C dX9_keep_63 rfl ?_
        refine zs_getf (pc := 64) C dX9_keep_64 w_X9_121 f_10_63 (by decide) ?_
        refine zs_iload_n (pc := 67) C dX9_keep_67 rfl ?_
        refine zs_iald (r := 2092) (pc := 68) C dX9_keep_68 a_92 (by decide) (by omega) rfl (r_2092 _) (fun v68 e68 l68 u68 => ?_)
        try simp only [zuI_1, zuI_2, zuJ_1, zuJ_2, zuJ_3, zuP_1, zuP_2, zuP_3, zuC_1, zuC_2, reduceIte, Nat.reduceEqDiff, false_and, and_false, true_and, and_true, and_self, or_true, true_or, or_false, false_or] at e68
        refine zs_iast (r := 2107) (pc := 69) C dX9_keep_69 a_107 (by decide) (by omega) rfl (rg7_b (by omega)) (by omega) ?_
        refine zs_aload_n (pc := 70) C dX9_keep_70 rfl ?_
        refine zs_getf (pc := 71) C dX9_keep_71 w_X9_169 f_10_90 (by decide) ?_
        refine zs_bipush (pc := 74) C dX9_keep_74 (by decide) (by decide) ?_
        refine zs_iload_n (pc := 76) C dX9_keep_76 rfl ?_
        first | refine zs_iadd (pc := 77) C dX9_keep_77 (by omega) ?_ | refine zs_iaddF (pc := 77) C dX9_keep_77 (fun z77 hz771 hz772 => ?_)
        refine zs_aload_n (pc := 78) C dX9_keep_78 rfl ?_
        refine zs_getf (pc := 79) C dX9_keep_79 w_X9_124 f_10_64 (by decide) ?_
        refine zs_iload_n (pc := 82) C dX9_keep_82 rfl ?_
        refine zs_iald (r := 2093) (pc := 83) C dX9_keep_83 a_93 (by decide) (by omega) rfl (r_2093 _) (fun v83 e83 l83 u83 => ?_)
        try simp only [zuI_1, zuI_2, zuJ_1, zuJ_2, zuJ_3, zuP_1, zuP_2, zuP_3, zuC_1, zuC_2, reduceIte, Nat.reduceEqDiff, false_and, and_false, true_and, and_true, and_self, or_true, true_or, or_false, false_or] at e83
        refine zs_iast (r := 2107) (pc := 84) C dX9_keep_84 a_107 (by decide) (by omega) rfl (rg7_c (by omega)) (by omega) ?_
        refine zs_aload_n (pc := 85) C dX9_keep_85 rfl ?_
        refine zs_getf (pc := 86) C dX9_keep_86 w_X9_169 f_10_90 (by decide) ?_
        refine zs_sipush (pc := 89) C dX9_keep_89 (by decide) (by decide) ?_
        refine zs_iload_n (pc := 92) C dX9_keep_92 rfl ?_
        first | refine zs_iadd (pc := 93) C dX9_keep_93 (by omega) ?_ | refine zs_iaddF (pc := 93) C dX9_keep_93 (fun z93 hz931 hz932 => ?_)
        refine zs_aload_n (pc := 94) C dX9_keep_94 rfl ?_
        refine zs_getf (pc := 95) C dX9_keep_95 w_X9_130 f_10_66 (by decide) ?_
        refine zs_iload_n (pc := 98) C dX9_keep_98 rfl ?_
        refine zs_iald (r := 2095) (pc := 99) C dX9_keep_99 a_95 (by decide) (by omega) rfl (r_2095 _) (fun v99 e99 l99 u99 => ?_)
        try simp only [zuI_1, zuI_2, zuJ_1, zuJ_2, zuJ_3, zuP_1, zuP_2, zuP_3, zuC_1, zuC_2, reduceIte, Nat.reduceEqDiff, false_and, and_false, true_and, and_true, and_self, or_true, true_or, or_false, false_or] at e99
        refine zs_iast (r := 2107) (pc := 100) C dX9_keep_100 a_107 (by decide) (by omega) rfl (rg7_c (by omega)) (by omega) ?_
        refine zs_aload_n (pc := 101) C dX9_keep_101 rfl ?_
        refine zs_getf (pc := 102) C dX9_keep_102 w_X9_169 f_10_90 (by decide) ?_
        refine zs_sipush (pc := 105) C dX9_keep_105 (by decide) (by decide) ?_
        refine zs_iload_n (pc := 108) C dX9_keep_108 rfl ?_
        first | refine zs_iadd (pc := 109) C dX9_keep_109 (by omega) ?_ | refine zs_iaddF (pc := 109) C dX9_keep_109 (fun z109 hz1091 hz1092 => ?_)
        refine zs_aload_n (pc := 110) C dX9_keep_110 rfl ?_
        refine zs_getf (pc := 111) C dX9_keep_111 w_X9_133 f_10_67 (by decide) ?_
        refine zs_iload_n (pc := 114) C dX9_keep_114 rfl ?_
        refine zs_iald (r := 2096) (pc := 115) C dX9_keep_115 a_96 (by decide) (by omega) rfl (r_2096 _) (fun v115 e115 l115 u115 => ?_)
        try simp only [zuI_1, zuI_2, zuJ_1, zuJ_2, zuJ_3, zuP_1, zuP_2, zuP_3, zuC_1, zuC_2, reduceIte, Nat.reduceEqDiff, false_and, and_false, true_and, and_true, and_self, or_true, true_or, or_false, false_or] at e115
        refine zs_iast (r := 2107) (pc := 116) C dX9_keep_116 a_107 (by decide) (by omega) rfl (rg7_c (by omega)) (by omega) ?_
        refine zs_aload_n (pc := 117) C dX9_keep_117 rfl ?_
        refine zs_getf (pc := 118) C dX9_keep_118 w_X9_169 f_10_90 (by decide) ?_
        refine zs_sipush (pc := 121) C dX9_keep_121 (by decide) (by decide) ?_
        refine zs_iload_n (pc := 124) C dX9_keep_124 rfl ?_
        first | refine zs_iadd (pc := 125) C dX9_keep_125 (by omega) ?_ | refine zs_iaddF (pc := 125) C dX9_keep_125 (fun z125 hz1251 hz1252 => ?_)
        refine zs_aload_n (pc := 126) C dX9_keep_126 rfl ?_
        refine zs_getf (pc := 127) C dX9_keep_127 w_X9_136 f_10_68 (by decide) ?_
        refine zs_iload_n (pc := 130) C dX9_keep_130 rfl ?_
        refine zs_iald (r := 2097) (pc := 131) C dX9_keep_131 a_97 (by decide) (by omega) rfl (r_2097 _) (fun v131 e131 l131 u131 => ?_)
        try simp only [zuI_1, zuI_2, zuJ_1, zuJ_2, zuJ_3, zuP_1, zuP_2, zuP_3, zuC_1, zuC_2, reduceIte, Nat.reduceEqDiff, false_and, and_false, true_and, and_true, and_self, or_true, true_or, or_false, false_or] at e131
        refine zs_iast (r := 2107) (pc := 132) C dX9_keep_132 a_107 (by decide) (by omega) rfl (rg7_c (by omega)) (by omega) ?_
        refine zs_aload_n (pc := 133) C dX9_keep_133 rfl ?_
        refine zs_getf (pc := 134) C dX9_keep_134 w_X9_169 f_10_90 (by decide) ?_
        refine zs_sipush (pc := 137) C dX9_keep_137 (by decide) (by decide) ?_
        refine zs_iload_n (pc := 140) C dX9_keep_140 rfl ?_
        first | refine zs_iadd (pc := 141) C dX9_keep_141 (by omega) ?_ | refine zs_iaddF (pc := 141) C dX9_keep_141 (fun z141 hz1411 hz1412 => ?_)
        refine zs_aload_n (pc := 142) C dX9_keep_142 rfl ?_
        refine zs_getf (pc := 143) C dX9_keep_143 w_X9_139 f_10_69 (by decide) ?_
        refine zs_iload_n (pc := 146) C dX9_keep_146 rfl ?_
        refine zs_iald (r := 2098) (pc := 147) C dX9_keep_147 a_98 (by decide) (by omega) rfl (r_2098 _) (fun v147 e147 l147 u147 => ?_)
        try simp only [zuI_1, zuI_2, zuJ_1, zuJ_2, zuJ_3, zuP_1, zuP_2, zuP_3, zuC_1, zuC_2, reduceIte, Nat.reduceEqDiff, false_and, and_false, true_and, and_true, and_self, or_true, true_or, or_false, false_or] at e147
        refine zs_iast (r := 2107) (pc := 148) C dX9_keep_148 a_107 (by decide) (by omega) rfl (rg7_c (by omega)) (by omega) ?_
        refine zs_aload_n (pc := 149) C dX9_keep_149 rfl ?_
        refine zs_getf (pc := 150) C dX9_keep_150 w_X9_169 f_10_90 (by decide) ?_
        refine zs_sipush (pc := 153) C dX9_keep_153 (by decide) (by decide) ?_
        refine zs_iload_n (pc := 156) C dX9_keep_156 rfl ?_
        first | refine zs_iadd (pc := 157) C dX9_keep_157 (by omega) ?_ | refine zs_iaddF (pc := 157) C dX9_keep_157 (fun z157 hz1571 hz1572 => ?_)
        refine zs_aload_n (pc := 158) C dX9_keep_158 rfl ?_
        refine zs_getf (pc := 159) C dX9_keep_159 w_X9_142 f_10_70 (by decide) ?_
        refine zs_iload_n (pc := 162) C dX9_keep_162 rfl ?_
        refine zs_iald (r := 2099) (pc := 163) C dX9_keep_163 a_99 (by decide) (by omega) rfl (r_2099 _) (fun v163 e163 l163 u163 => ?_)
        try simp only [zuI_1, zuI_2, zuJ_1, zuJ_2, zuJ_3, zuP_1, zuP_2, zuP_3, zuC_1, zuC_2, reduceIte, Nat.reduceEqDiff, false_and, and_false, true_and, and_true, and_self, or_true, true_or, or_false, false_or] at e163
        refine zs_iast (r := 2107) (pc := 164) C dX9_keep_164 a_107 (by decide) (by omega) rfl (rg7_c (by omega)) (by omega) ?_
        refine zs_aload_n (pc := 165) C dX9_keep_165 rfl ?_
        refine zs_getf (pc := 166) C dX9_keep_166 w_X9_169 f_10_90 (by decide) ?_
        refine zs_sipush (pc := 169) C dX9_keep_169 (by decide) (by decide) ?_
        refine zs_iload_n (pc := 172) C dX9_keep_172 rfl ?_
        first | refine zs_iadd (pc := 173) C dX9_keep_173 (by omega) ?_ | refine zs_iaddF (pc := 173) C dX9_keep_173 (fun z173 hz1731 hz1732 => ?_)
        refine zs_aload_n (pc := 174) C dX9_keep_174 rfl ?_
        refine zs_getf (pc := 175) C dX9_keep_175 w_X9_145 f_10_71 (by decide) ?_
        refine zs_iload_n (pc := 178) C dX9_keep_178 rfl ?_
        refine zs_iald (r := 2100) (pc := 179) C dX9_keep_179 a_100 (by decide) (by omega) rfl (r_2100 _) (fun v179 e179 l179 u179 => ?_)
        try simp only [zuI_1, zuI_2, zuJ_1, zuJ_2, zuJ_3, zuP_1, zuP_2, zuP_3, zuC_1, zuC_2, reduceIte, Nat.reduceEqDiff, false_and, and_false, true_and, and_true, and_self, or_true, true_or, or_false, false_or] at e179
        refine zs_iast (r := 2107) (pc := 180) C dX9_keep_180 a_107 (by decide) (by omega) rfl (rg7_c (by omega)) (by omega) ?_
        first | refine zs_iinc (pc := 181) C dX9_keep_181 rfl (by decide) (by omega) ?_ | refine zs_iincF (pc := 181) C dX9_keep_181 rfl (by decide) (fun z181 hz1811 hz1812 => ?_)
        dsimp only [zset, zclr, znone]
        refine zs_goto (tgt := 37) (pc := 184) C dX9_keep_184 (by decide) ?_
        exact zs_wk (ih37 _ _ (by first | omega | (simp only [zuI_1, zuI_2, zuJ_1, zuJ_2, zuJ_3, zuP_1, zuP_2, zuP_3, zuC_1, zuC_2, reduceIte, Nat.reduceEqDiff, false_and, and_false, true_and, and_true, and_self, or_true, true_or, or_false, false_or]; omega)) (by repeat (first | exact zsm_rf | assumption | refine zsm_C (by decide) ?_ | refine zsm_I (by decide) ?_ | refine zsm_J ?_ | refine zsm_c (by assumption) (by decide) ?_)) (by repeat (first | exact zsm_rf | assumption | refine zsm_C (by decide) ?_ | refine zsm_I (by decide) ?_ | refine zsm_J ?_ | refine zsm_c (by assumption) (by decide) ?_)) (by first | omega | (simp only [zuI_1, zuI_2, zuJ_1, zuJ_2, zuJ_3, zuP_1, zuP_2, zuP_3, zuC_1, zuC_2, reduceIte, Nat.reduceEqDiff, false_and, and_false, true_and, and_true, and_self, or_true, true_or, or_false, false_or]; omega))) (zwk_s rfl (zwk_s rfl zwk_0))
  exact zs_wk (L37 _ _ _ (by first | omega | (simp only [zuI_1, zuI_2, zuJ_1, zuJ_2, zuJ_3, zuP_1, zuP_2, zuP_3, zuC_1, zuC_2, reduceIte, Nat.reduceEqDiff, false_and, and_false, true_and, and_true, and_self, or_true, true_or, or_false, false_or]; omega)) (by repeat (first | exact zsm_rf | assumption | refine zsm_C (by decide) ?_ | refine zsm_I (by decide) ?_ | refine zsm_J ?_ | refine zsm_c (by assumption) (by decide) ?_)) (by repeat (first | exact zsm_rf | assumption | refine zsm_C (by decide) ?_ | refine zsm_I (by decide) ?_ | refine zsm_J ?_ | refine zsm_c (by assumption) (by decide) ?_)) (Nat.lt_succ_self _)) (zwk_s rfl (zwk_s rfl zwk_0))

set_option maxHeartbeats 4000000 in
set_option maxRecDepth 100000 in
theorem c_X9_backD {l : Launch} {Γ : zΓ} {G : zH} {w : Nat}  (hX : zXs Γ)  : zMet l Γ yX9_back cX9_back 2 (some .int) 1 [zr 10 w] G (zpi (fun x G' => zsm [2081, 2082, 2083, 2084, 2085, 2086, 2087, 2088, 2089, 2090, 2094, 2091, 2092, 2093, 2095, 2096, 2097, 2098, 2099, 2100, 1002, 1083, 1084] G G' ∧ ((G.1 1086 w 0 = 0 → x = -1 ∧ G'.1 2090 (Γ.2.1 w 60) (0 : Int).toNat = G.1 2090 (Γ.2.1 w 60) (0 : Int).toNat ∧ G'.1 1084 w 0 = G.1 1084 w 0) ∧ (G.1 1086 w 0 ≠ 0 → x = G.1 2106 (Γ.2.1 w 89) (0 + 123 : Int).toNat ∧ G'.1 2090 (Γ.2.1 w 60) (0 : Int).toNat = G.1 2106 (Γ.2.1 w 89) (0 + 123 : Int).toNat ∧ G'.1 1084 w 0 = 0)))) := by
  refine zMet_of RX9 hX (by decide) rfl (Nat.le_of_ble_eq_true rfl) ?_
  intro p e s m args below meth c C hr hlk
  show Z p l e (zrm 1) s m args below meth c Γ 2 0 0 (MQ below (zQc Γ (zpi (fun x G' => zsm [2081, 2082, 2083, 2084, 2085, 2086, 2087, 2088, 2089, 2090, 2094, 2091, 2092, 2093, 2095, 2096, 2097, 2098, 2099, 2100, 1002, 1083, 1084] G G' ∧ ((G.1 1086 w 0 = 0 → x = -1 ∧ G'.1 2090 (Γ.2.1 w 60) (0 : Int).toNat = G.1 2090 (Γ.2.1 w 60) (0 : Int).toNat ∧ G'.1 1084 w 0 = G.1 1084 w 0) ∧ (G.1 1086 w 0 ≠ 0 → x = G.1 2106 (Γ.2.1 w 89) (0 + 123 : Int).toNat ∧ G'.1 2090 (Γ.2.1 w 60) (0 : Int).toNat = G.1 2106 (Γ.2.1 w 89) (0 + 123 : Int).toNat ∧ G'.1 1084 w 0 = 0))))) args s 0 0 (zA Γ)) 0 [some (zr 10 w), none] [] G
  refine zs_aload_n (pc := 0) C dX9_back_0 rfl ?_
  refine zs_iconst (pc := 1) C dX9_back_1 (by decide) ?_
  refine zs_puti (r := 1002) (pc := 2) C dX9_back_2 w_X9_178 f_10_2 rfl (r_1002 0) (by omega) ?_
  refine zs_aload_n (pc := 5) C dX9_back_5 rfl ?_
  refine zs_getz (r := 1086) (pc := 6) C dX9_back_6 w_X9_385 f_10_86 rfl (r_1086 0) (fun v6 e6 l6 u6 => ?_)
  try simp only [zuI_1, zuI_2, zuJ_1, zuJ_2, zuJ_3, zuP_1, zuP_2, zuP_3, zuC_1, zuC_2, reduceIte, Nat.reduceEqDiff, false_and, and_false, true_and, and_true, and_self, or_true, true_or, or_false, false_or] at e6
  refine zs_if_ne (tgt := 14) (pc := 9) C dX9_back_9 (by decide) (fun h9 => ?_) (fun h9 => ?_)
  · skip
    refine zs_aload_n (pc := 14) C dX9_back_14 rfl ?_
    refine zs_aload_n (pc := 15) C dX9_back_15 rfl ?_
    refine zs_getj (r := 1088) (pc := 16) C dX9_back_16 w_X9_553 f_10_88 rfl (fun v16 e16 l16 u16 => ?_)
    try simp only [zuI_1, zuI_2, zuJ_1, zuJ_2, zuJ_3, zuP_1, zuP_2, zuP_3, zuC_1, zuC_2, reduceIte, Nat.reduceEqDiff, false_and, and_false, true_and, and_true, and_self, or_true, true_or, or_false, false_or] at e16
    refine zs_putj (r := 1061) (pc := 19) C dX9_back_19 w_X9_375 f_10_61 rfl ?_
    refine zs_aload_n (pc := 22) C dX9_back_22 rfl ?_
    refine zs_aload_n (pc := 23) C dX9_back_23 rfl ?_
    refine zs_geti (r := 1087) (pc := 24) C dX9_back_24 w_X9_556 f_10_87 rfl (r_1087 0) (fun v24 e24 l24 u24 => ?_)
    try simp only [zuI_1, zuI_2, zuJ_1, zuJ_2, zuJ_3, zuP_1, zuP_2, zuP_3, zuC_1, zuC_2, reduceIte, Nat.reduceEqDiff, false_and, and_false, true_and, and_true, and_self, or_true, true_or, or_false, false_or] at e24
    refine zs_puti (r := 1083) (pc := 27) C dX9_back_27 w_X9_379 f_10_83 rfl (r_1083 0) (by omega) ?_
    refine zs_aload_n (pc := 30) C dX9_back_30 rfl ?_
    refine zs_aload_n (pc := 31) C dX9_back_31 rfl ?_
    refine zs_getf (pc := 32) C dX9_back_32 w_X9_166 f_10_89 (by decide) ?_
    refine zs_iconst (pc := 35) C dX9_back_35 (by decide) ?_
    refine zVv2 (pc := 36) C dX9_back_36 v_X9_550 (c_X9_takeD6 hX (by first | omega | (simp only [zuI_1, zuI_2, zuJ_1, zuJ_2, zuJ_3, zuP_1, zuP_2, zuP_3, zuC_1, zuC_2, reduceIte, Nat.reduceEqDiff, false_and, and_false, true_and, and_true, and_self, or_true, true_or, or_false, false_or]; omega))) (by decide) (by decide) ⟨Nat.zero_le _, Nat.zero_le _⟩ (Nat.le_of_ble_eq_true rfl) (fun G36 hp36 => ?_)
    obtain ⟨hz36, hq36⟩ := hp36
    try simp only [zuI_1, zuI_2, zuJ_1, zuJ_2, zuJ_3, zuP_1, zuP_2, zuP_3, zuC_1, zuC_2, reduceIte, Nat.reduceEqDiff, false_and, and_false, true_and, and_true, and_self, or_true, true_or, or_false, false_or] at hq36
    refine zs_iconst (pc := 39) C dX9_back_39 (by decide) ?_
    refine zs_istore_n (pc := 40) C dX9_back_40 (by decide) ?_
    dsimp only [zset, zclr, znone]
    have L41 : ∀ (nn : Nat) (x1 : Int) (G1 : zH), (0 ≤ x1 ∧ x1 ≤ 60) → (zsm [2081, 2082, 2083, 2084, 2085, 2086, 2087, 2088, 2089, 2090, 2094, 2091, 2092, 2093, 2095, 2096, 2097, 2098, 2099, 2100, 1002, 1083, 1084] G G1) → (zsm [2091, 2092, 2093, 2095, 2096, 2097, 2098, 2099, 2100] G36 G1) → (60 - x1).toNat < nn → Z p l e (zrm 1) s m args below meth c Γ 2 0 0 (MQ below (zQc Γ (zpi (fun x G' => zsm [2081, 2082, 2083, 2084, 2085, 2086, 2087, 2088, 2089, 2090, 2094, 2091, 2092, 2093, 2095, 2096, 2097, 2098, 2099, 2100, 1002, 1083, 1084] G G' ∧ ((G.1 1086 w 0 = 0 → x = -1 ∧ G'.1 2090 (Γ.2.1 w 60) (0 : Int).toNat = G.1 2090 (Γ.2.1 w 60) (0 : Int).toNat ∧ G'.1 1084 w 0 = G.1 1084 w 0) ∧ (G.1 1086 w 0 ≠ 0 → x = G.1 2106 (Γ.2.1 w 89) (0 + 123 : Int).toNat ∧ G'.1 2090 (Γ.2.1 w 60) (0 : Int).toNat = G.1 2106 (Γ.2.1 w 89) (0 + 123 : Int).toNat ∧ G'.1 1084 w 0 = 0))))) args s 0 0 (zA Γ)) 41 [some (zr 10 w), some (zi x1)] [] G1 := by
      intro nn
      induction nn with
      | zero => intro x1 G1 h41_0 h41_1 h41_2 hm; exact absurd hm (Nat.not_lt_zero _)
      | succ nn ih41 =>
        intro x1 G1 h41_0 h41_1 h41_2 hm41
        have s90 := zsm_at h41_2 2090 (Γ.2.1 w 60) (0 : Int).toNat (by decide)
        refine zs_iload_n (pc := 41) C dX9_back_41 rfl ?_
        refine zs_bipush (pc := 42) C dX9_back_42 (by decide) (by decide) ?_
        refine zs_icmp_ge (tgt := 191) (pc := 44) C dX9_back_44 (by decide) (fun h44 => ?_) (fun h44 => ?_)
        · skip
          refine zs_aload_n (pc := 191) C dX9_back_191 rfl ?_
          refine zs_iconst (pc := 192) C dX9_back_192 (by decide) ?_
          refine zs_puti (r := 1084) (pc := 193) C dX9_back_193 w_X9_382 f_10_84 rfl (r_1084 0) (by omega) ?_
          refine zs_aload_n (pc := 196) C dX9_back_196 rfl ?_
          refine zs_getf (pc := 197) C dX9_back_197 w_X9_115 f_10_60 (by decide) ?_
          refine zs_iconst (pc := 200) C dX9_back_200 (by decide) ?_
          refine zs_iald (r := 2090) (pc := 201) C dX9_back_201 a_90 (by decide) (by omega) rfl (r_2090 _) (fun v201 e201 l201 u201 => ?_)
          try simp only [zuI_1, zuI_2, zuJ_1, zuJ_2, zuJ_3, zuP_1, zuP_2, zuP_3, zuC_1, zuC_2, reduceIte, Nat.reduceEqDiff, false_and, and_false, true_and, and_true, and_self, or_true, true_or, or_false, false_or] at e201
          exact zs_iret (pc := 202) C hr hlk dX9_back_202 ⟨by repeat (first | exact zsm_rf | assumption | refine zsm_C (by decide) ?_ | refine zsm_I (by decide) ?_ | refine zsm_J ?_ | refine zsm_c (by assumption) (by decide) ?_), (by refine ⟨fun h1 => ?_, fun h1 => ?_⟩ <;> first | (exfalso; omega) | (refine ⟨?_, ?_, ?_⟩ <;> (first | omega | (exfalso; omega) | (simp only [zuI_1, zuI_2, zuJ_1, zuJ_2, zuJ_3, zuP_1, zuP_2, zuP_3, zuC_1, zuC_2, reduceIte, Nat.reduceEqDiff, false_and, and_false, true_and, and_true, and_self, or_true, true_or, or_false, false_or]; done) | (simp only [zuI_1, zuI_2, zuJ_1, zuJ_2, zuJ_3, zuP_1, zuP_2, zuP_3, zuC_1, zuC_2, reduceIte, Nat.reduceEqDiff, false_and, and_false, true_and, and_true, and_self, or_true, true_or, or_false, false_or]; omega))))⟩
        · skip
          refine zs_aload_n (pc := 47) C dX9_back_47 rfl ?_
          refine zs_getf (pc := 48) C dX9_back_48 w_X9_118 f_10_62 (by decide) ?_
          refine zs_iload_n (pc := 51) C dX9_back_51 rfl ?_
          refine zs_aload_n (pc := 52) C dX9_back_52 rfl ?_
          refine zs_getf (pc := 53) C dX9_back_53 w_X9_169 f_10_90 (by decide) ?_
          refine zs_iload_n (pc := 56) C dX9_back_56 rfl ?_
          refine zs_iald (r := 2107) (pc := 57) C dX9_back_57 a_107 (by decide) (by omega) rfl (rg7_a (by omega)) (fun v57 e57 l57 u57 => ?_)
          refine zs_iast (r := 2091) (pc := 58) C dX9_back_58 a_91 (by decide) (by omega) rfl (r_2091 _) (by omega) ?_
          refine zs_aload_n (pc := 59) C dX9_back_59 rfl ?_
          refine zs_getf (pc := 60) C dX9_back_60 w_X9_121 f_10_63 (by decide) ?_
          refine zs_iload_n (pc := 63) C dX9_back_63 rfl ?_
          refine zs_aload_n (pc := 64) C dX9_back_64 rfl ?_
          refine zs_getf (pc := 65) C dX9_back_65 w_X9_169 f_10_90 (by decide) ?_
          refine zs_bipush (pc := 68) C dX9_back_68 (by decide) (by decide) ?_
          refine zs_iload_n (pc := 70) C dX9_back_70 rfl ?_
          first | refine zs_iadd (pc := 71) C dX9_back_71 (by omega) ?_ | refine zs_iaddF (pc := 71) C dX9_back_71 (fun z71 hz711 hz712 => ?_)
          refine zs_iald (r := 2107) (pc := 72) C dX9_back_72 a_107 (by decide) (by omega) rfl (rg7_b (by omega)) (fun v72 e72 l72 u72 => ?_)
          try simp only [zuI_1, zuI_2, zuJ_1, zuJ_2, zuJ_3, zuP_1, zuP_2, zuP_3, zuC_1, zuC_2, reduceIte, Nat.reduceEqDiff, false_and, and_false, true_and, and_true, and_self, or_true, true_or, or_false, false_or] at e72
          refine zs_iast (r := 2092) (pc := 73) C dX9_back_73 a_92 (by decide) (by omega) rfl (r_2092 _) (by omega) ?_
          refine zs_aload_n (pc := 74) C dX9_back_74 rfl ?_
          refine zs_getf (pc := 75) C dX9_back_75 w_X9_124 f_10_64 (by decide) ?_
          refine zs_iload_n (pc := 78) C dX9_back_78 rfl ?_
          refine zs_aload_n (pc := 79) C dX9_back_79 rfl ?_
          refine zs_getf (pc := 80) C dX9_back_80 w_X9_169 f_10_90 (by decide) ?_
          refine zs_bipush (pc := 83) C dX9_back_83 (by decide) (by decide) ?_
          refine zs_iload_n (pc := 85) C dX9_back_85 rfl ?_
          first | refine zs_iadd (pc := 86) C dX9_back_86 (by omega) ?_ | refine zs_iaddF (pc := 86) C dX9_back_86 (fun z86 hz861 hz862 => ?_)
          refine zs_iald (r := 2107) (pc := 87) C dX9_back_87 a_107 (by decide) (by omega) rfl (rg7_c (by omega)) (fun v87 e87 l87 u87 => ?_)
          try simp only [zuI_1, zuI_2, zuJ_1, zuJ_2, zuJ_3, zuP_1, zuP_2, zuP_3, zuC_1, zuC_2, reduceIte, Nat.reduceEqDiff, false_and, and_false, true_and, and_true, and_self, or_true, true_or, or_false, false_or] at e87
          refine zs_iast (r := 2093) (pc := 88) C dX9_back_88 a_93 (by decide) (by omega) rfl (r_2093 _) (by omega) ?_
          refine zs_aload_n (pc := 89) C dX9_back_89 rfl ?_
          refine zs_getf (pc := 90) C dX9_back_90 w_X9_130 f_10_66 (by decide) ?_
          refine zs_iload_n (pc := 93) C dX9_back_93 rfl ?_
          refine zs_aload_n (pc := 94) C dX9_back_94 rfl ?_
          refine zs_getf (pc := 95) C dX9_back_95 w_X9_169 f_10_90 (by decide) ?_
          refine zs_sipush (pc := 98) C dX9_back_98 (by decide) (by decide) ?_
          refine zs_iload_n (pc := 101) C dX9_back_101 rfl ?_
          first | refine zs_iadd (pc := 102) C dX9_back_102 (by omega) ?_ | refine zs_iaddF (pc := 102) C dX9_back_102 (fun z102 hz1021 hz1022 => ?_)
          refine zs_iald (r := 2107) (pc := 103) C dX9_back_103 a_107 (by decide) (by omega) rfl (rg7_c (by omega)) (fun v103 e103 l103 u103 => ?_)
          try simp only [zuI_1, zuI_2, zuJ_1, zuJ_2, zuJ_3, zuP_1, zuP_2, zuP_3, zuC_1, zuC_2, reduceIte, Nat.reduceEqDiff, false_and, and_false, true_and, and_true, and_self, or_true, true_or, or_false, false_or] at e103
          refine zs_iast (r := 2095) (pc := 104) C dX9_back_104 a_95 (by decide) (by omega) rfl (r_2095 _) (by omega) ?_
          refine zs_aload_n (pc := 105) C dX9_back_105 rfl ?_
          refine zs_getf (pc := 106) C dX9_back_106 w_X9_133 f_10_67 (by decide) ?_
          refine zs_iload_n (pc := 109) C dX9_back_109 rfl ?_
          refine zs_aload_n (pc := 110) C dX9_back_110 rfl ?_
          refine zs_getf (pc := 111) C dX9_back_111 w_X9_169 f_10_90 (by decide) ?_
          refine zs_sipush (pc := 114) C dX9_back_114 (by decide) (by decide) ?_
          refine zs_iload_n (pc := 117) C dX9_back_117 rfl ?_
          first | refine zs_iadd (pc := 118) C dX9_back_118 (by omega) ?_ | refine zs_iaddF (pc := 118) C dX9_back_118 (fun z118 hz1181 hz1182 => ?_)
          refine zs_iald (r := 2107) (pc := 119) C dX9_back_119 a_107 (by decide) (by omega) rfl (rg7_c (by omega)) (fun v119 e119 l119 u119 => ?_)
          try simp only [zuI_1, zuI_2, zuJ_1, zuJ_2, zuJ_3, zuP_1, zuP_2, zuP_3, zuC_1, zuC_2, reduceIte, Nat.reduceEqDiff, false_and, and_false, true_and, and_true, and_self, or_true, true_or, or_false, false_or] at e119
          refine zs_iast (r := 2096) (pc := 120) C dX9_back_120 a_96 (by decide) (by omega) rfl (r_2096 _) (by omega) ?_
          refine zs_aload_n (pc := 121) C dX9_back_121 rfl ?_
          refine zs_getf (pc := 122) C dX9_back_122 w_X9_136 f_10_68 (by decide) ?_
          refine zs_iload_n (pc := 125) C dX9_back_125 rfl ?_
          refine zs_aload_n (pc := 126) C dX9_back_126 rfl ?_
          refine zs_getf (pc := 127) C dX9_back_127 w_X9_169 f_10_90 (by decide) ?_
          refine zs_sipush (pc := 130) C dX9_back_130 (by decide) (by decide) ?_
          refine zs_iload_n (pc := 133) C dX9_back_133 rfl ?_
          first | refine zs_iadd (pc := 134) C dX9_back_134 (by omega) ?_ | refine zs_iaddF (pc := 134) C dX9_back_134 (fun z134 hz1341 hz1342 => ?_)
          refine zs_iald (r := 2107) (pc := 135) C dX9_back_135 a_107 (by decide) (by omega) rfl (rg7_c (by omega)) (fun v135 e135 l135 u135 => ?_)
          try simp only [zuI_1, zuI_2, zuJ_1, zuJ_2, zuJ_3, zuP_1, zuP_2, zuP_3, zuC_1, zuC_2, reduceIte, Nat.reduceEqDiff, false_and, and_false, true_and, and_true, and_self, or_true, true_or, or_false, false_or] at e135
          refine zs_iast (r := 2097) (pc := 136) C dX9_back_136 a_97 (by decide) (by omega) rfl (r_2097 _) (by omega) ?_
          refine zs_aload_n (pc := 137) C dX9_back_137 rfl ?_
          refine zs_getf (pc := 138) C dX9_back_138 w_X9_139 f_10_69 (by decide) ?_
          refine zs_iload_n (pc := 141) C dX9_back_141 rfl ?_
          refine zs_aload_n (pc := 142) C dX9_back_142 rfl ?_
          refine zs_getf (pc := 143) C dX9_back_143 w_X9_169 f_10_90 (by decide) ?_
          refine zs_sipush (pc := 146) C dX9_back_146 (by decide) (by decide) ?_
          refine zs_iload_n (pc := 149) C dX9_back_149 rfl ?_
          first | refine zs_iadd (pc := 150) C dX9_back_150 (by omega) ?_ | refine zs_iaddF (pc := 150) C dX9_back_150 (fun z150 hz1501 hz1502 => ?_)
          refine zs_iald (r := 2107) (pc := 151) C dX9_back_151 a_107 (by decide) (by omega) rfl (rg7_c (by omega)) (fun v151 e151 l151 u151 => ?_)
          try simp only [zuI_1, zuI_2, zuJ_1, zuJ_2, zuJ_3, zuP_1, zuP_2, zuP_3, zuC_1, zuC_2, reduceIte, Nat.reduceEqDiff, false_and, and_false, true_and, and_true, and_self, or_true, true_or, or_false, false_or] at e151
          refine zs_iast (r := 2098) (pc := 152) C dX9_back_152 a_98 (by decide) (by omega) rfl (r_2098 _) (by omega) ?_
          refine zs_aload_n (pc := 153) C dX9_back_153 rfl ?_
          refine zs_getf (pc := 154) C dX9_back_154 w_X9_142 f_10_70 (by decide) ?_
          refine zs_iload_n (pc := 157) C dX9_back_157 rfl ?_
          refine zs_aload_n (pc := 158) C dX9_back_158 rfl ?_
          refine zs_getf (pc := 159) C dX9_back_159 w_X9_169 f_10_90 (by decide) ?_
          refine zs_sipush (pc := 162) C dX9_back_162 (by decide) (by decide) ?_
          refine zs_iload_n (pc := 165) C dX9_back_165 rfl ?_
          first | refine zs_iadd (pc := 166) C dX9_back_166 (by omega) ?_ | refine zs_iaddF (pc := 166) C dX9_back_166 (fun z166 hz1661 hz1662 => ?_)
          refine zs_iald (r := 2107) (pc := 167) C dX9_back_167 a_107 (by decide) (by omega) rfl (rg7_c (by omega)) (fun v167 e167 l167 u167 => ?_)
          try simp only [zuI_1, zuI_2, zuJ_1, zuJ_2, zuJ_3, zuP_1, zuP_2, zuP_3, zuC_1, zuC_2, reduceIte, Nat.reduceEqDiff, false_and, and_false, true_and, and_true, and_self, or_true, true_or, or_false, false_or] at e167
          refine zs_iast (r := 2099) (pc := 168) C dX9_back_168 a_99 (by decide) (by omega) rfl (r_2099 _) (by omega) ?_
          refine zs_aload_n (pc := 169) C dX9_back_169 rfl ?_
          refine zs_getf (pc := 170) C dX9_back_170 w_X9_145 f_10_71 (by decide) ?_
          refine zs_iload_n (pc := 173) C dX9_back_173 rfl ?_
          refine zs_aload_n (pc := 174) C dX9_back_174 rfl ?_
          refine zs_getf (pc := 175) C dX9_back_175 w_X9_169 f_10_90 (by decide) ?_
          refine zs_sipush (pc := 178) C dX9_back_178 (by decide) (by decide) ?_
          refine zs_iload_n (pc := 181) C dX9_back_181 rfl ?_
          first | refine zs_iadd (pc := 182) C dX9_back_182 (by omega) ?_ | refine zs_iaddF (pc := 182) C dX9_back_182 (fun z182 hz1821 hz1822 => ?_)
          refine zs_iald (r := 2107) (pc := 183) C dX9_back_183 a_107 (by decide) (by omega) rfl (rg7_c (by omega)) (fun v183 e183 l183 u183 => ?_)
          try simp only [zuI_1, zuI_2, zuJ_1, zuJ_2, zuJ_3, zuP_1, zuP_2, zuP_3, zuC_1, zuC_2, reduceIte, Nat.reduceEqDiff, false_and, and_false, true_and, and_true, and_self, or_true, true_or, or_false, false_or] at e183
          refine zs_iast (r := 2100) (pc := 184) C dX9_back_184 a_100 (by decide) (by omega) rfl (r_2100 _) (by omega) ?_
          first | refine zs_iinc (pc := 185) C dX9_back_185 rfl (by decide) (by omega) ?_ | refine zs_iincF (pc := 185) C dX9_back_185 rfl (by decide) (fun z185 hz1851 hz1852 => ?_)
          dsimp only [zset, zclr, znone]
          refine zs_goto (tgt := 41) (pc := 188) C dX9_back_188 (by decide) ?_
          exact zs_wk (ih41 _ _ (by first | omega | (simp only [zuI_1, zuI_2, zuJ_1, zuJ_2, zuJ_3, zuP_1, zuP_2, zuP_3, zuC_1, zuC_2, reduceIte, Nat.reduceEqDiff, false_and, and_false, true_and, and_true, and_self, or_true, true_or, or_false, false_or]; omega)) (by repeat (first | exact zsm_rf | assumption | refine zsm_C (by decide) ?_ | refine zsm_I (by decide) ?_ | refine zsm_J ?_ | refine zsm_c (by assumption) (by decide) ?_)) (by repeat (first | exact zsm_rf | assumption | refine zsm_C (by decide) ?_ | refine zsm_I (by decide) ?_ | refine zsm_J ?_ | refine zsm_c (by assumption) (by decide) ?_)) (by first | omega | (simp only [zuI_1, zuI_2, zuJ_1, zuJ_2, zuJ_3, zuP_1, zuP_2, zuP_3, zuC_1, zuC_2, reduceIte, Nat.reduceEqDiff, false_and, and_false, true_and, and_true, and_self, or_true, true_or, or_false, false_or]; omega))) (zwk_s rfl (zwk_s rfl zwk_0))
    exact zs_wk (L41 _ _ _ (by first | omega | (simp only [zuI_1, zuI_2, zuJ_1, zuJ_2, zuJ_3, zuP_1, zuP_2, zuP_3, zuC_1, zuC_2, reduceIte, Nat.reduceEqDiff, false_and, and_false, true_and, and_true, and_self, or_true, true_or, or_false, false_or]; omega)) (by repeat (first | exact zsm_rf | assumption | refine zsm_C (by decide) ?_ | refine zsm_I (by decide) ?_ | refine zsm_J ?_ | refine zsm_c (by assumption) (by decide) ?_)) (by repeat (first | exact zsm_rf | assumption | refine zsm_C (by decide) ?_ | refine zsm_I (by decide) ?_ | refine zsm_J ?_ | refine zsm_c (by assumption) (by decide) ?_)) (Nat.lt_succ_self _)) (zwk_s rfl (zwk_s rfl zwk_0))
  · skip
    refine zs_iconst (pc := 12) C dX9_back_12 (by decide) ?_
    exact zs_iret (pc := 13) C hr hlk dX9_back_13 ⟨by repeat (first | exact zsm_rf | assumption | refine zsm_C (by decide) ?_ | refine zsm_I (by decide) ?_ | refine zsm_J ?_ | refine zsm_c (by assumption) (by decide) ?_), (by refine ⟨fun h1 => ?_, fun h1 => ?_⟩ <;> first | (exfalso; omega) | (refine ⟨?_, ?_, ?_⟩ <;> (first | omega | (exfalso; omega) | (simp only [zuI_1, zuI_2, zuJ_1, zuJ_2, zuJ_3, zuP_1, zuP_2, zuP_3, zuC_1, zuC_2, reduceIte, Nat.reduceEqDiff, false_and, and_false, true_and, and_true, and_self, or_true, true_or, or_false, false_or]; done) | (simp only [zuI_1, zuI_2, zuJ_1, zuJ_2, zuJ_3, zuP_1, zuP_2, zuP_3, zuC_1, zuC_2, reduceIte, Nat.reduceEqDiff, false_and, and_false, true_and, and_true, and_self, or_true, true_or, or_false, false_or]; omega))))⟩

set_option maxHeartbeats 4000000 in
set_option maxRecDepth 100000 in
theorem c_X9_layTriedE {l : Launch} {Γ : zΓ} {G : zH} {w : Nat}  (hX : zXs Γ)  : zMet l Γ yX9_layTried cX9_layTried 2 none 0 [zr 10 w] G (zpv (fun G' => zsm [2081, 2082, 2083, 2084, 2085, 2086, 2087, 2088, 2089, 2090, 2093, 2094, 1072, 1073, 1074] G G' ∧ (G'.1 2090 (Γ.2.1 w 60) (0 : Int).toNat = G.1 2090 (Γ.2.1 w 60) (0 : Int).toNat))) := by
  refine zMet_of RX9 hX (by decide) rfl (Nat.le_of_ble_eq_true rfl) ?_
  intro p e s m args below meth c C hr hlk
  show Z p l e (zrm 0) s m args below meth c Γ 2 0 0 (MQ below (zQc Γ (zpv (fun G' => zsm [2081, 2082, 2083, 2084, 2085, 2086, 2087, 2088, 2089, 2090, 2093, 2094, 1072, 1073, 1074] G G' ∧ (G'.1 2090 (Γ.2.1 w 60) (0 : Int).toNat = G.1 2090 (Γ.2.1 w 60) (0 : Int).toNat)))) args s 0 0 (zA Γ)) 0 [some (zr 10 w), none] [] G
  refine zs_iconst (pc := 0) C dX9_layTried_0 (by decide) ?_
  refine zs_istore_n (pc := 1) C dX9_layTried_1 (by decide) ?_
  dsimp only [zset, zclr, znone]
  have L2 : ∀ (nn : Nat) (x1 : Int) (G1 : zH), (0 ≤ x1 ∧ x1 ≤ 20) → (zsm [2081, 2082, 2083, 2084, 2085, 2086, 2087, 2088, 2089, 2093, 2094, 1072, 1073, 1074] G G1) → (20 - x1).toNat < nn → Z p l e (zrm 0) s m args below meth c Γ 2 0 0 (MQ below (zQc Γ (zpv (fun G' => zsm [2081, 2082, 2083, 2084, 2085, 2086, 2087, 2088, 2089, 2090, 2093, 2094, 1072, 1073, 1074] G G' ∧ (G'.1 2090 (Γ.2.1 w 60) (0 : Int).toNat = G.1 2090 (Γ.2.1 w 60) (0 : Int).toNat)))) args s 0 0 (zA Γ)) 2 [some (zr 10 w), some (zi x1)] [] G1 := by
    intro nn
    induction nn with
    | zero => intro x1 G1 h2_0 h2_1 hm; exact absurd hm (Nat.not_lt_zero _)
    | succ nn ih2 =>
      intro x1 G1 h2_0 h2_1 hm2
      refine zs_iload_n (pc := 2) C dX9_layTried_2 rfl ?_
      refine zs_bipush (pc := 3) C dX9_layTried_3 (by decide) (by decide) ?_
      refine zs_icmp_ge (tgt := 44) (pc := 5) C dX9_layTried_5 (by decide) (fun h5 => ?_) (fun h5 => ?_)
      · skip
        refine zs_iconst (pc := 44) C dX9_layTried_44 (by decide) ?_
        refine zs_istore_n (pc := 45) C dX9_layTried_45 (by decide) ?_
        dsimp only [zset, zclr, znone]
        have L46 : ∀ (nn : Nat) (x1 : Int) (G2 : zH), (0 ≤ x1 ∧ x1 ≤ 5) → (zsm [2081, 2082, 2083, 2084, 2085, 2086, 2087, 2088, 2089, 2093, 2094, 1072, 1073, 1074] G G2) → (5 - x1).toNat < nn → Z p l e (zrm 0) s m args below meth c Γ 2 0 0 (MQ below (zQc Γ (zpv (fun G' => zsm [2081, 2082, 2083, 2084, 2085, 2086, 2087, 2088, 2089, 2090, 2093, 2094, 1072, 1073, 1074] G G' ∧ (G'.1 2090 (Γ.2.1 w 60) (0 : Int).toNat = G.1 2090 (Γ.2.1 w 60) (0 : Int).toNat)))) args s 0 0 (zA Γ)) 46 [some (zr 10 w), some (zi x1)] [] G2 := by
          intro nn
          induction nn with
          | zero => intro x1 G2 h46_0 h46_1 hm; exact absurd hm (Nat.not_lt_zero _)
          | succ nn ih46 =>
            intro x1 G2 h46_0 h46_1 hm46
            refine zs_iload_n (pc := 46) C dX9_layTried_46 rfl ?_
            refine zs_iconst (pc := 47) C dX9_layTried_47 (by decide) ?_
            refine zs_icmp_ge (tgt := 113) (pc := 48) C dX9_layTried_48 (by decide) (fun h48 => ?_) (fun h48 => ?_)
            · skip
              refine zs_aload_n (pc := 113) C dX9_layTried_113 rfl ?_
              refine zs_getf (pc := 114) C dX9_layTried_114 w_X9_106 f_10_57 (by decide) ?_
              refine zs_iconst (pc := 117) C dX9_layTried_117 (by decide) ?_
              refine zs_aload_n (pc := 118) C dX9_layTried_118 rfl ?_
              refine zs_getf (pc := 119) C dX9_layTried_119 w_X9_106 f_10_57 (by decide) ?_
              refine zs_iconst (pc := 122) C dX9_layTried_122 (by decide) ?_
              refine zs_iald (r := 2087) (pc := 123) C dX9_layTried_123 a_87 (by decide) (by omega) rfl (r_2087 _) (fun v123 e123 l123 u123 => ?_)
              refine zs_iast (r := 2087) (pc := 124) C dX9_layTried_124 a_87 (by decide) (by omega) rfl (r_2087 _) (by omega) ?_
              refine zs_aload_n (pc := 125) C dX9_layTried_125 rfl ?_
              refine zs_getf (pc := 126) C dX9_layTried_126 w_X9_109 f_10_58 (by decide) ?_
              refine zs_iconst (pc := 129) C dX9_layTried_129 (by decide) ?_
              refine zs_aload_n (pc := 130) C dX9_layTried_130 rfl ?_
              refine zs_getf (pc := 131) C dX9_layTried_131 w_X9_109 f_10_58 (by decide) ?_
              refine zs_iconst (pc := 134) C dX9_layTried_134 (by decide) ?_
              refine zs_iald (r := 2088) (pc := 135) C dX9_layTried_135 a_88 (by decide) (by omega) rfl (r_2088 _) (fun v135 e135 l135 u135 => ?_)
              try simp only [zuI_1, zuI_2, zuJ_1, zuJ_2, zuJ_3, zuP_1, zuP_2, zuP_3, zuC_1, zuC_2, reduceIte, Nat.reduceEqDiff, false_and, and_false, true_and, and_true, and_self, or_true, true_or, or_false, false_or] at e135
              refine zs_iast (r := 2088) (pc := 136) C dX9_layTried_136 a_88 (by decide) (by omega) rfl (r_2088 _) (by omega) ?_
              refine zs_aload_n (pc := 137) C dX9_layTried_137 rfl ?_
              refine zs_getf (pc := 138) C dX9_layTried_138 w_X9_112 f_10_59 (by decide) ?_
              refine zs_iconst (pc := 141) C dX9_layTried_141 (by decide) ?_
              refine zs_aload_n (pc := 142) C dX9_layTried_142 rfl ?_
              refine zs_getf (pc := 143) C dX9_layTried_143 w_X9_112 f_10_59 (by decide) ?_
              refine zs_iconst (pc := 146) C dX9_layTried_146 (by decide) ?_
              refine zs_iald (r := 2089) (pc := 147) C dX9_layTried_147 a_89 (by decide) (by omega) rfl (r_2089 _) (fun v147 e147 l147 u147 => ?_)
              try simp only [zuI_1, zuI_2, zuJ_1, zuJ_2, zuJ_3, zuP_1, zuP_2, zuP_3, zuC_1, zuC_2, reduceIte, Nat.reduceEqDiff, false_and, and_false, true_and, and_true, and_self, or_true, true_or, or_false, false_or] at e147
              refine zs_iast (r := 2089) (pc := 148) C dX9_layTried_148 a_89 (by decide) (by omega) rfl (r_2089 _) (by omega) ?_
              refine zs_aload_n (pc := 149) C dX9_layTried_149 rfl ?_
              refine zs_getf (pc := 150) C dX9_layTried_150 w_X9_115 f_10_60 (by decide) ?_
              refine zs_iconst (pc := 153) C dX9_layTried_153 (by decide) ?_
              refine zs_aload_n (pc := 154) C dX9_layTried_154 rfl ?_
              refine zs_getf (pc := 155) C dX9_layTried_155 w_X9_115 f_10_60 (by decide) ?_
              refine zs_iconst (pc := 158) C dX9_layTried_158 (by decide) ?_
              refine zs_iald (r := 2090) (pc := 159) C dX9_layTried_159 a_90 (by decide) (by omega) rfl (r_2090 _) (fun v159 e159 l159 u159 => ?_)
              try simp only [zuI_1, zuI_2, zuJ_1, zuJ_2, zuJ_3, zuP_1, zuP_2, zuP_3, zuC_1, zuC_2, reduceIte, Nat.reduceEqDiff, false_and, and_false, true_and, and_true, and_self, or_true, true_or, or_false, false_or] at e159
              refine zs_iast (r := 2090) (pc := 160) C dX9_layTried_160 a_90 (by decide) (by omega) rfl (r_2090 _) (by omega) ?_
              refine zs_iconst (pc := 161) C dX9_layTried_161 (by decide) ?_
              refine zs_istore_n (pc := 162) C dX9_layTried_162 (by decide) ?_
              dsimp only [zset, zclr, znone]
              have L163 : ∀ (nn : Nat) (x1 : Int) (G3 : zH), (0 ≤ x1 ∧ x1 ≤ 60) → (zsm [2081, 2082, 2083, 2084, 2085, 2086, 2087, 2088, 2089, 2090, 2093, 2094, 1072, 1073, 1074] G G3) → (G3.1 2090 (Γ.2.1 w 60) (0 : Int).toNat = G.1 2090 (Γ.2.1 w 60) (0 : Int).toNat) → (60 - x1).toNat < nn → Z p l e (zrm 0) s m args below meth c Γ 2 0 0 (MQ below (zQc Γ (zpv (fun G' => zsm [2081, 2082, 2083, 2084, 2085, 2086, 2087, 2088, 2089, 2090, 2093, 2094, 1072, 1073, 1074] G G' ∧ (G'.1 2090 (Γ.2.1 w 60) (0 : Int).toNat = G.1 2090 (Γ.2.1 w 60) (0 : Int).toNat)))) args s 0 0 (zA Γ)) 163 [some (zr 10 w), some (zi x1)] [] G3 := by
                intro nn
                induction nn with
                | zero => intro x1 G3 h163_0 h163_1 h163_2 hm; exact absurd hm (Nat.not_lt_zero _)
                | succ nn ih163 =>
                  intro x1 G3 h163_0 h163_1 h163_2 hm163
                  refine zs_iload_n (pc := 163) C dX9_layTried_163 rfl ?_
                  refine zs_aload_n (pc := 164) C dX9_layTried_164 rfl ?_
                  refine zs_getf (pc := 165) C dX9_layTried_165 w_X9_106 f_10_57 (by decide) ?_
                  refine zs_iconst (pc := 168) C dX9_layTried_168 (by decide) ?_
                  refine zs_iald (r := 2087) (pc := 169) C dX9_layTried_169 a_87 (by decide) (by omega) rfl (r_2087 _) (fun v169 e169 l169 u169 => ?_)
                  refine zs_icmp_ge (tgt := 209) (pc := 170) C dX9_layTried_170 (by decide) (fun h170 => ?_) (fun h170 => ?_)
                  · skip
                    refine zs_aload_n (pc := 209) C dX9_layTried_209 rfl ?_
                    refine zs_iconst (pc := 210) C dX9_layTried_210 (by decide) ?_
                    refine zs_puti (r := 1073) (pc := 211) C dX9_layTried_211 w_X9_388 f_10_73 rfl (r_1073 0) (by omega) ?_
                    refine zs_aload_n (pc := 214) C dX9_layTried_214 rfl ?_
                    refine zs_iconst (pc := 215) C dX9_layTried_215 (by decide) ?_
                    refine zs_puti (r := 1072) (pc := 216) C dX9_layTried_216 w_X9_391 f_10_72 rfl (r_1072 0) (by omega) ?_
                    refine zs_aload_n (pc := 219) C dX9_layTried_219 rfl ?_
                    refine zs_iconst (pc := 220) C dX9_layTried_220 (by decide) ?_
                    refine zs_puti (r := 1074) (pc := 221) C dX9_layTried_221 w_X9_148 f_10_74 rfl (r_1074 0) (by omega) ?_
                    exact zs_vret (pc := 224) C hr hlk dX9_layTried_224 ⟨by repeat (first | exact zsm_rf | assumption | refine zsm_C (by decide) ?_ | refine zsm_I (by decide) ?_ | refine zsm_J ?_ | refine zsm_c (by assumption) (by decide) ?_), by first | omega | (simp only [zuI_1, zuI_2, zuJ_1, zuJ_2, zuJ_3, zuP_1, zuP_2, zuP_3, zuC_1, zuC_2, reduceIte, Nat.reduceEqDiff, false_and, and_false, true_and, and_true, and_self, or_true, true_or, or_false, false_or]; omega)⟩
                  · skip
                    refine zs_aload_n (pc := 173) C dX9_layTried_173 rfl ?_
                    refine zs_getf (pc := 174) C dX9_layTried_174 w_X9_124 f_10_64 (by decide) ?_
                    refine zs_bipush (pc := 177) C dX9_layTried_177 (by decide) (by decide) ?_
                    refine zs_iload_n (pc := 179) C dX9_layTried_179 rfl ?_
                    first | refine zs_iadd (pc := 180) C dX9_layTried_180 (by omega) ?_ | refine zs_iaddF (pc := 180) C dX9_layTried_180 (fun z180 hz1801 hz1802 => ?_)
                    refine zs_aload_n (pc := 181) C dX9_layTried_181 rfl ?_
                    refine zs_getf (pc := 182) C dX9_layTried_182 w_X9_124 f_10_64 (by decide) ?_
                    refine zs_iload_n (pc := 185) C dX9_layTried_185 rfl ?_
                    refine zs_iald (r := 2093) (pc := 186) C dX9_layTried_186 a_93 (by decide) (by omega) rfl (r_2093 _) (fun v186 e186 l186 u186 => ?_)
                    refine zs_iast (r := 2093) (pc := 187) C dX9_layTried_187 a_93 (by decide) (by omega) rfl (r_2093 _) (by omega) ?_
                    refine zs_aload_n (pc := 188) C dX9_layTried_188 rfl ?_
                    refine zs_getf (pc := 189) C dX9_layTried_189 w_X9_127 f_10_65 (by decide) ?_
                    refine zs_bipush (pc := 192) C dX9_layTried_192 (by decide) (by decide) ?_
                    refine zs_iload_n (pc := 194) C dX9_layTried_194 rfl ?_
                    first | refine zs_iadd (pc := 195) C dX9_layTried_195 (by omega) ?_ | refine zs_iaddF (pc := 195) C dX9_layTried_195 (fun z195 hz1951 hz1952 => ?_)
                    refine zs_aload_n (pc := 196) C dX9_layTried_196 rfl ?_
                    refine zs_getf (pc := 197) C dX9_layTried_197 w_X9_127 f_10_65 (by decide) ?_
                    refine zs_iload_n (pc := 200) C dX9_layTried_200 rfl ?_
                    refine zs_iald (r := 2094) (pc := 201) C dX9_layTried_201 a_94 (by decide) (by omega) rfl (r_2094 _) (fun v201 e201 l201 u201 => ?_)
                    try simp only [zuI_1, zuI_2, zuJ_1, zuJ_2, zuJ_3, zuP_1, zuP_2, zuP_3, zuC_1, zuC_2, reduceIte, Nat.reduceEqDiff, false_and, and_false, true_and, and_true, and_self, or_true, true_or, or_false, false_or] at e201
                    refine zs_iast (r := 2094) (pc := 202) C dX9_layTried_202 a_94 (by decide) (by omega) rfl (r_2094 _) (by omega) ?_
                    first | refine zs_iinc (pc := 203) C dX9_layTried_203 rfl (by decide) (by omega) ?_ | refine zs_iincF (pc := 203) C dX9_layTried_203 rfl (by decide) (fun z203 hz2031 hz2032 => ?_)
                    dsimp only [zset, zclr, znone]
                    refine zs_goto (tgt := 163) (pc := 206) C dX9_layTried_206 (by decide) ?_
                    exact zs_wk (ih163 _ _ (by first | omega | (simp only [zuI_1, zuI_2, zuJ_1, zuJ_2, zuJ_3, zuP_1, zuP_2, zuP_3, zuC_1, zuC_2, reduceIte, Nat.reduceEqDiff, false_and, and_false, true_and, and_true, and_self, or_true, true_or, or_false, false_or]; omega)) (by repeat (first | exact zsm_rf | assumption | refine zsm_C (by decide) ?_ | refine zsm_I (by decide) ?_ | refine zsm_J ?_ | refine zsm_c (by assumption) (by decide) ?_)) (by first | omega | rfl | (simp only [zuI_1, zuI_2, zuJ_1, zuJ_2, zuJ_3, zuP_1, zuP_2, zuP_3, zuC_1, zuC_2, reduceIte, Nat.reduceEqDiff, false_and, and_false, true_and, and_true, and_self, or_true, true_or, or_false, false_or]; done) | (simp only [zuI_1, zuI_2, zuJ_1, zuJ_2, zuJ_3, zuP_1, zuP_2, zuP_3, zuC_1, zuC_2, reduceIte, Nat.reduceEqDiff, false_and, and_false, true_and, and_true, and_self, or_true, true_or, or_false, false_or]; omega)) (by first | omega | (simp only [zuI_1, zuI_2, zuJ_1, zuJ_2, zuJ_3, zuP_1, zuP_2, zuP_3, zuC_1, zuC_2, reduceIte, Nat.reduceEqDiff, false_and, and_false, true_and, and_true, and_self, or_true, true_or, or_false, false_or]; omega))) (zwk_s rfl (zwk_s rfl zwk_0))
              exact zs_wk (L163 _ _ _ (by omega) (by repeat (first | exact zsm_rf | assumption | refine zsm_C (by decide) ?_ | refine zsm_I (by decide) ?_ | refine zsm_J ?_ | refine zsm_c (by assumption) (by decide) ?_)) (by rw [zuI_1, if_neg (fun q => absurd q.2.2 (by decide))]; simp only [zuI_1, zuI_2, zuJ_1, zuJ_2, zuJ_3, zuP_1, zuP_2, zuP_3, zuC_1, zuC_2, reduceIte, Nat.reduceEqDiff, false_and, and_false, true_and, and_true, and_self, or_true, true_or, or_false, false_or]; exact zsm_at h46_1 2090 _ _ (by decide)) (Nat.lt_succ_self _)) (zwk_s rfl (zwk_s rfl zwk_0))
            · skip
              refine zs_aload_n (pc := 51) C dX9_layTried_51 rfl ?_
              refine zs_getf (pc := 52) C dX9_layTried_52 w_X9_94 f_10_53 (by decide) ?_
              refine zs_iconst (pc := 55) C dX9_layTried_55 (by decide) ?_
              refine zs_iload_n (pc := 56) C dX9_layTried_56 rfl ?_
              first | refine zs_iadd (pc := 57) C dX9_layTried_57 (by omega) ?_ | refine zs_iaddF (pc := 57) C dX9_layTried_57 (fun z57 hz571 hz572 => ?_)
              refine zs_aload_n (pc := 58) C dX9_layTried_58 rfl ?_
              refine zs_getf (pc := 59) C dX9_layTried_59 w_X9_94 f_10_53 (by decide) ?_
              refine zs_iload_n (pc := 62) C dX9_layTried_62 rfl ?_
              refine zs_iald (r := 2083) (pc := 63) C dX9_layTried_63 a_83 (by decide) (by omega) rfl (r_2083 _) (fun v63 e63 l63 u63 => ?_)
              refine zs_iast (r := 2083) (pc := 64) C dX9_layTried_64 a_83 (by decide) (by omega) rfl (r_2083 _) (by omega) ?_
              refine zs_aload_n (pc := 65) C dX9_layTried_65 rfl ?_
              refine zs_getf (pc := 66) C dX9_layTried_66 w_X9_97 f_10_54 (by decide) ?_
              refine zs_iconst (pc := 69) C dX9_layTried_69 (by decide) ?_
              refine zs_iload_n (pc := 70) C dX9_layTried_70 rfl ?_
              first | refine zs_iadd (pc := 71) C dX9_layTried_71 (by omega) ?_ | refine zs_iaddF (pc := 71) C dX9_layTried_71 (fun z71 hz711 hz712 => ?_)
              refine zs_aload_n (pc := 72) C dX9_layTried_72 rfl ?_
              refine zs_getf (pc := 73) C dX9_layTried_73 w_X9_97 f_10_54 (by decide) ?_
              refine zs_iload_n (pc := 76) C dX9_layTried_76 rfl ?_
              refine zs_iald (r := 2084) (pc := 77) C dX9_layTried_77 a_84 (by decide) (by omega) rfl (r_2084 _) (fun v77 e77 l77 u77 => ?_)
              try simp only [zuI_1, zuI_2, zuJ_1, zuJ_2, zuJ_3, zuP_1, zuP_2, zuP_3, zuC_1, zuC_2, reduceIte, Nat.reduceEqDiff, false_and, and_false, true_and, and_true, and_self, or_true, true_or, or_false, false_or] at e77
              refine zs_iast (r := 2084) (pc := 78) C dX9_layTried_78 a_84 (by decide) (by omega) rfl (r_2084 _) (by omega) ?_
              refine zs_aload_n (pc := 79) C dX9_layTried_79 rfl ?_
              refine zs_getf (pc := 80) C dX9_layTried_80 w_X9_100 f_10_55 (by decide) ?_
              refine zs_iconst (pc := 83) C dX9_layTried_83 (by decide) ?_
              refine zs_iload_n (pc := 84) C dX9_layTried_84 rfl ?_
              first | refine zs_iadd (pc := 85) C dX9_layTried_85 (by omega) ?_ | refine zs_iaddF (pc := 85) C dX9_layTried_85 (fun z85 hz851 hz852 => ?_)
              refine zs_aload_n (pc := 86) C dX9_layTried_86 rfl ?_
              refine zs_getf (pc := 87) C dX9_layTried_87 w_X9_100 f_10_55 (by decide) ?_
              refine zs_iload_n (pc := 90) C dX9_layTried_90 rfl ?_
              refine zs_iald (r := 2085) (pc := 91) C dX9_layTried_91 a_85 (by decide) (by omega) rfl (r_2085 _) (fun v91 e91 l91 u91 => ?_)
              try simp only [zuI_1, zuI_2, zuJ_1, zuJ_2, zuJ_3, zuP_1, zuP_2, zuP_3, zuC_1, zuC_2, reduceIte, Nat.reduceEqDiff, false_and, and_false, true_and, and_true, and_self, or_true, true_or, or_false, false_or] at e91
              refine zs_iast (r := 2085) (pc := 92) C dX9_layTried_92 a_85 (by decide) (by omega) rfl (r_2085 _) (by omega) ?_
              refine zs_aload_n (pc := 93) C dX9_layTried_93 rfl ?_
              refine zs_getf (pc := 94) C dX9_layTried_94 w_X9_103 f_10_56 (by decide) ?_
              refine zs_iconst (pc := 97) C dX9_layTried_97 (by decide) ?_
              refine zs_iload_n (pc := 98) C dX9_layTried_98 rfl ?_
              first | refine zs_iadd (pc := 99) C dX9_layTried_99 (by omega) ?_ | refine zs_iaddF (pc := 99) C dX9_layTried_99 (fun z99 hz991 hz992 => ?_)
              refine zs_aload_n (pc := 100) C dX9_layTried_100 rfl ?_
              refine zs_getf (pc := 101) C dX9_layTried_101 w_X9_103 f_10_56 (by decide) ?_
              refine zs_iload_n (pc := 104) C dX9_layTried_104 rfl ?_
              refine zs_iald (r := 2086) (pc := 105) C dX9_layTried_105 a_86 (by decide) (by omega) rfl (r_2086 _) (fun v105 e105 l105 u105 => ?_)
              try simp only [zuI_1, zuI_2, zuJ_1, zuJ_2, zuJ_3, zuP_1, zuP_2, zuP_3, zuC_1, zuC_2, reduceIte, Nat.reduceEqDiff, false_and, and_false, true_and, and_true, and_self, or_true, true_or, or_false, false_or] at e105
              refine zs_iast (r := 2086) (pc := 106) C dX9_layTried_106 a_86 (by decide) (by omega) rfl (r_2086 _) (by omega) ?_
              first | refine zs_iinc (pc := 107) C dX9_layTried_107 rfl (by decide) (by omega) ?_ | refine zs_iincF (pc := 107) C dX9_layTried_107 rfl (by decide) (fun z107 hz1071 hz1072 => ?_)
              dsimp only [zset, zclr, znone]
              refine zs_goto (tgt := 46) (pc := 110) C dX9_layTried_110 (by decide) ?_
              exact zs_wk (ih46 _ _ (by first | omega | (simp only [zuI_1, zuI_2, zuJ_1, zuJ_2, zuJ_3, zuP_1, zuP_2, zuP_3, zuC_1, zuC_2, reduceIte, Nat.reduceEqDiff, false_and, and_false, true_and, and_true, and_self, or_true, true_or, or_false, false_or]; omega)) (by repeat (first | exact zsm_rf | assumption | refine zsm_C (by decide) ?_ | refine zsm_I (by decide) ?_ | refine zsm_J ?_ | refine zsm_c (by assumption) (by decide) ?_)) (by first | omega | (simp only [zuI_1, zuI_2, zuJ_1, zuJ_2, zuJ_3, zuP_1, zuP_2, zuP_3, zuC_1, zuC_2, reduceIte, Nat.reduceEqDiff, false_and, and_false, true_and, and_true, and_self, or_true, true_or, or_false, false_or]; omega))) (zwk_s rfl (zwk_s rfl zwk_0))
        exact zs_wk (L46 _ _ _ (by first | omega | (simp only [zuI_1, zuI_2, zuJ_1, zuJ_2, zuJ_3, zuP_1, zuP_2, zuP_3, zuC_1, zuC_2, reduceIte, Nat.reduceEqDiff, false_and, and_false, true_and, and_true, and_self, or_true, true_or, or_false, false_or]; omega)) (by repeat (first | exact zsm_rf | assumption | refine zsm_C (by decide) ?_ | refine zsm_I (by decide) ?_ | refine zsm_J ?_ | refine zsm_c (by assumption) (by decide) ?_)) (Nat.lt_succ_self _)) (zwk_s rfl (zwk_s rfl zwk_0))
      · skip
        refine zs_aload_n (pc := 8) C dX9_layTried_8 rfl ?_
        refine zs_getf (pc := 9) C dX9_layTried_9 w_X9_88 f_10_51 (by decide) ?_
        refine zs_bipush (pc := 12) C dX9_layTried_12 (by decide) (by decide) ?_
        refine zs_iload_n (pc := 14) C dX9_layTried_14 rfl ?_
        first | refine zs_iadd (pc := 15) C dX9_layTried_15 (by omega) ?_ | refine zs_iaddF (pc := 15) C dX9_layTried_15 (fun z15 hz151 hz152 => ?_)
        refine zs_aload_n (pc := 16) C dX9_layTried_16 rfl ?_
        refine zs_getf (pc := 17) C dX9_layTried_17 w_X9_88 f_10_51 (by decide) ?_
        refine zs_iload_n (pc := 20) C dX9_layTried_20 rfl ?_
        refine zs_iald (r := 2081) (pc := 21) C dX9_layTried_21 a_81 (by decide) (by omega) rfl (r_2081 _) (fun v21 e21 l21 u21 => ?_)
        refine zs_iast (r := 2081) (pc := 22) C dX9_layTried_22 a_81 (by decide) (by omega) rfl (r_2081 _) (by omega) ?_
        refine zs_aload_n (pc := 23) C dX9_layTried_23 rfl ?_
        refine zs_getf (pc := 24) C dX9_layTried_24 w_X9_91 f_10_52 (by decide) ?_
        refine zs_bipush (pc := 27) C dX9_layTried_27 (by decide) (by decide) ?_
        refine zs_iload_n (pc := 29) C dX9_layTried_29 rfl ?_
        first | refine zs_iadd (pc := 30) C dX9_layTried_30 (by omega) ?_ | refine zs_iaddF (pc := 30) C dX9_layTried_30 (fun z30 hz301 hz302 => ?_)
        refine zs_aload_n (pc := 31) C dX9_layTried_31 rfl ?_
        refine zs_getf (pc := 32) C dX9_layTried_32 w_X9_91 f_10_52 (by decide) ?_
        refine zs_iload_n (pc := 35) C dX9_layTried_35 rfl ?_
        refine zs_iald (r := 2082) (pc := 36) C dX9_layTried_36 a_82 (by decide) (by omega) rfl (r_2082 _) (fun v36 e36 l36 u36 => ?_)
        try simp only [zuI_1, zuI_2, zuJ_1, zuJ_2, zuJ_3, zuP_1, zuP_2, zuP_3, zuC_1, zuC_2, reduceIte, Nat.reduceEqDiff, false_and, and_false, true_and, and_true, and_self, or_true, true_or, or_false, false_or] at e36
        refine zs_iast (r := 2082) (pc := 37) C dX9_layTried_37 a_82 (by decide) (by omega) rfl (r_2082 _) (by omega) ?_
        first | refine zs_iinc (pc := 38) C dX9_layTried_38 rfl (by decide) (by omega) ?_ | refine zs_iincF (pc := 38) C dX9_layTried_38 rfl (by decide) (fun z38 hz381 hz382 => ?_)
        dsimp only [zset, zclr, znone]
        refine zs_goto (tgt := 2) (pc := 41) C dX9_layTried_41 (by decide) ?_
        exact zs_wk (ih2 _ _ (by first | omega | (simp only [zuI_1, zuI_2, zuJ_1, zuJ_2, zuJ_3, zuP_1, zuP_2, zuP_3, zuC_1, zuC_2, reduceIte, Nat.reduceEqDiff, false_and, and_false, true_and, and_true, and_self, or_true, true_or, or_false, false_or]; omega)) (by repeat (first | exact zsm_rf | assumption | refine zsm_C (by decide) ?_ | refine zsm_I (by decide) ?_ | refine zsm_J ?_ | refine zsm_c (by assumption) (by decide) ?_)) (by first | omega | (simp only [zuI_1, zuI_2, zuJ_1, zuJ_2, zuJ_3, zuP_1, zuP_2, zuP_3, zuC_1, zuC_2, reduceIte, Nat.reduceEqDiff, false_and, and_false, true_and, and_true, and_self, or_true, true_or, or_false, false_or]; omega))) (zwk_s rfl (zwk_s rfl zwk_0))
  exact zs_wk (L2 _ _ _ (by first | omega | (simp only [zuI_1, zuI_2, zuJ_1, zuJ_2, zuJ_3, zuP_1, zuP_2, zuP_3, zuC_1, zuC_2, reduceIte, Nat.reduceEqDiff, false_and, and_false, true_and, and_true, and_self, or_true, true_or, or_false, false_or]; omega)) (by repeat (first | exact zsm_rf | assumption | refine zsm_C (by decide) ?_ | refine zsm_I (by decide) ?_ | refine zsm_J ?_ | refine zsm_c (by assumption) (by decide) ?_)) (Nat.lt_succ_self _)) (zwk_s rfl (zwk_s rfl zwk_0))

set_option maxHeartbeats 4000000 in
set_option maxRecDepth 100000 in
theorem c_X9_runsE {l : Launch} {Γ : zΓ} {G : zH} {w : Nat} {a b : Int} (hX : zXs Γ) (hM : MI Γ w G) : zMet l Γ yX9_runs cX9_runs 4 (some .int) 7 [zr 10 w, zi a, zi b] G (zpi (fun x G' => zsm [1050, 2091, 2092, 2093, 2094, 2095, 2096, 2097, 2098, 2099, 2100, 2088, 2087, 2082, 2084, 2083, 2089, 2086, 1073, 2090, 1072, 1074] G G' ∧ (G'.1 2090 (Γ.2.1 w 60) (0 : Int).toNat = G.1 2090 (Γ.2.1 w 60) (0 : Int).toNat))) := by
  refine zMet_of RX9 hX (by decide) rfl (Nat.le_of_ble_eq_true rfl) ?_
  intro p e s m args below meth c C hr hlk
  show Z p l e (zrm 7) s m args below meth c Γ 4 0 0 (MQ below (zQc Γ (zpi (fun x G' => zsm [1050, 2091, 2092, 2093, 2094, 2095, 2096, 2097, 2098, 2099, 2100, 2088, 2087, 2082, 2084, 2083, 2089, 2086, 1073, 2090, 1072, 1074] G G' ∧ (G'.1 2090 (Γ.2.1 w 60) (0 : Int).toNat = G.1 2090 (Γ.2.1 w 60) (0 : Int).toNat)))) args s 0 0 (zA Γ)) 0 [some (zr 10 w), some (zi a), some (zi b), none] [] G
  refine zs_loc 1 rfl (fun ha1 hb1 => ?_)
  refine zs_loc 2 rfl (fun ha2 hb2 => ?_)
  refine zs_aload_n (pc := 0) C dX9_runs_0 rfl ?_
  refine zs_iload_n (pc := 1) C dX9_runs_1 rfl ?_
  refine zs_puti (r := 1072) (pc := 2) C dX9_runs_2 w_X9_391 f_10_72 rfl (r_1072 0) (by omega) ?_
  refine zs_iconst (pc := 5) C dX9_runs_5 (by decide) ?_
  refine zs_istore_n (pc := 6) C dX9_runs_6 (by decide) ?_
  dsimp only [zset, zclr, znone]
  have L7 : ∀ (nn : Nat) (x3 : Int) (G1 : zH), (0 ≤ x3 ∧ (x3 ≤ a ∨ x3 = 0)) → (zsm [1050, 2091, 2092, 2093, 2094, 2095, 2096, 2097, 2098, 2099, 2100, 2088, 2087, 2082, 2084, 2083, 2089, 2086, 1073, 2090, 1072, 1074] G G1) → (G1.1 2090 (Γ.2.1 w 60) (0 : Int).toNat = G.1 2090 (Γ.2.1 w 60) (0 : Int).toNat) → (a - x3).toNat < nn → Z p l e (zrm 7) s m args below meth c Γ 4 0 0 (MQ below (zQc Γ (zpi (fun x G' => zsm [1050, 2091, 2092, 2093, 2094, 2095, 2096, 2097, 2098, 2099, 2100, 2088, 2087, 2082, 2084, 2083, 2089, 2086, 1073, 2090, 1072, 1074] G G' ∧ (G'.1 2090 (Γ.2.1 w 60) (0 : Int).toNat = G.1 2090 (Γ.2.1 w 60) (0 : Int).toNat)))) args s 0 0 (zA Γ)) 7 [some (zr 10 w), some (zi a), some (zi b), some (zi x3)] [] G1 := by
    intro nn
    induction nn with
    | zero => intro x3 G1 h7_0 h7_1 h7_2 hm; exact absurd hm (Nat.not_lt_zero _)
    | succ nn ih7 =>
      intro x3 G1 h7_0 h7_1 h7_2 hm7
      refine zs_iload_n (pc := 7) C dX9_runs_7 rfl ?_
      refine zs_iload_n (pc := 8) C dX9_runs_8 rfl ?_
      refine zs_icmp_ge (tgt := 23) (pc := 9) C dX9_runs_9 (by decide) (fun h9 => ?_) (fun h9 => ?_)
      · skip
        refine zs_aload_n (pc := 23) C dX9_runs_23 rfl ?_
        refine zs_iconst (pc := 24) C dX9_runs_24 (by decide) ?_
        refine zs_puti (r := 1074) (pc := 25) C dX9_runs_25 w_X9_148 f_10_74 rfl (r_1074 0) (by omega) ?_
        refine zs_aload_n (pc := 28) C dX9_runs_28 rfl ?_
        refine zs_iconst (pc := 29) C dX9_runs_29 (by decide) ?_
        refine zs_iload_n (pc := 30) C dX9_runs_30 rfl ?_
        refine zVip2 (pc := 31) C dX9_runs_31 v_X9_468 (c_X9_flourOf hX (by first | omega | (simp only [zuI_1, zuI_2, zuJ_1, zuJ_2, zuJ_3, zuP_1, zuP_2, zuP_3, zuC_1, zuC_2, reduceIte, Nat.reduceEqDiff, false_and, and_false, true_and, and_true, and_self, or_true, true_or, or_false, false_or]; omega))) (by decide) (by decide) ⟨Nat.zero_le _, Nat.zero_le _⟩ (Nat.le_of_ble_eq_true rfl) (fun x31 l31 u31 hp31 => ?_)
        have hq31 := hp31
        try simp only [zuI_1, zuI_2, zuJ_1, zuJ_2, zuJ_3, zuP_1, zuP_2, zuP_3, zuC_1, zuC_2, reduceIte, Nat.reduceEqDiff, false_and, and_false, true_and, and_true, and_self, or_true, true_or, or_false, false_or] at hq31
        refine zs_aload_n (pc := 34) C dX9_runs_34 rfl ?_
        refine zs_geti (r := 1073) (pc := 35) C dX9_runs_35 w_X9_388 f_10_73 rfl (r_1073 0) (fun v35 e35 l35 u35 => ?_)
        try simp only [zuI_1, zuI_2, zuJ_1, zuJ_2, zuJ_3, zuP_1, zuP_2, zuP_3, zuC_1, zuC_2, reduceIte, Nat.reduceEqDiff, false_and, and_false, true_and, and_true, and_self, or_true, true_or, or_false, false_or] at e35
        first | refine zs_iadd (pc := 38) C dX9_runs_38 (by omega) ?_ | refine zs_iaddF (pc := 38) C dX9_runs_38 (fun z38 hz381 hz382 => ?_)
        exact zs_iret (pc := 39) C hr hlk dX9_runs_39 ⟨by repeat (first | exact zsm_rf | assumption | refine zsm_C (by decide) ?_ | refine zsm_I (by decide) ?_ | refine zsm_J ?_ | refine zsm_c (by assumption) (by decide) ?_), (by first | omega | rfl | (simp only [zuI_1, zuI_2, zuJ_1, zuJ_2, zuJ_3, zuP_1, zuP_2, zuP_3, zuC_1, zuC_2, reduceIte, Nat.reduceEqDiff, false_and, and_false, true_and, and_true, and_self, or_true, true_or, or_false, false_or]; done) | (simp only [zuI_1, zuI_2, zuJ_1, zuJ_2, zuJ_3, zuP_1, zuP_2, zuP_3, zuC_1, zuC_2, reduceIte, Nat.reduceEqDiff, false_and, and_false, true_and, and_true, and_self, or_true, true_or, or_false, false_or]; omega))⟩
      · skip
        refine zs_aload_n (pc := 12) C dX9_runs_12 rfl ?_
        refine zs_iconst (pc := 13) C dX9_runs_13 (by decide) ?_
        refine zVv1 (pc := 14) C dX9_runs_14 v_X9_489 (c_X9_goesByE hX (by repeat (first | assumption | refine MI_I (by decide) ?_ | refine MI_J ?_ | refine MI_sm (by assumption) (by decide) ?_ | refine MI_sn (by assumption) (by decide) ?_)) (by omega)) (by decide) (by decide) ⟨Nat.zero_le _, Nat.zero_le _⟩ (Nat.le_of_ble_eq_true rfl) (fun G14 hp14 => ?_)
        obtain ⟨hz14, hq14⟩ := hp14
        have hq9 := hq14 (0 : Int).toNat (by decide)
        first | refine zs_iinc (pc := 17) C dX9_runs_17 rfl (by decide) (by omega) ?_ | refine zs_iincF (pc := 17) C dX9_runs_17 rfl (by decide) (fun z17 hz171 hz172 => ?_)
        dsimp only [zset, zclr, znone]
        refine zs_goto (tgt := 7) (pc := 20) C dX9_runs_20 (by decide) ?_
        exact zs_wk (ih7 _ _ (by first | omega | (simp only [zuI_1, zuI_2, zuJ_1, zuJ_2, zuJ_3, zuP_1, zuP_2, zuP_3, zuC_1, zuC_2, reduceIte, Nat.reduceEqDiff, false_and, and_false, true_and, and_true, and_self, or_true, true_or, or_false, false_or]; omega)) (by repeat (first | exact zsm_rf | assumption | refine zsm_C (by decide) ?_ | refine zsm_I (by decide) ?_ | refine zsm_J ?_ | refine zsm_c (by assumption) (by decide) ?_)) (by first | omega | rfl | (simp only [zuI_1, zuI_2, zuJ_1, zuJ_2, zuJ_3, zuP_1, zuP_2, zuP_3, zuC_1, zuC_2, reduceIte, Nat.reduceEqDiff, false_and, and_false, true_and, and_true, and_self, or_true, true_or, or_false, false_or]; done) | (simp only [zuI_1, zuI_2, zuJ_1, zuJ_2, zuJ_3, zuP_1, zuP_2, zuP_3, zuC_1, zuC_2, reduceIte, Nat.reduceEqDiff, false_and, and_false, true_and, and_true, and_self, or_true, true_or, or_false, false_or]; omega)) (by first | omega | (simp only [zuI_1, zuI_2, zuJ_1, zuJ_2, zuJ_3, zuP_1, zuP_2, zuP_3, zuC_1, zuC_2, reduceIte, Nat.reduceEqDiff, false_and, and_false, true_and, and_true, and_self, or_true, true_or, or_false, false_or]; omega))) (zwk_s rfl (zwk_s rfl (zwk_s rfl (zwk_s rfl zwk_0))))
  exact zs_wk (L7 _ _ _ (by first | omega | (simp only [zuI_1, zuI_2, zuJ_1, zuJ_2, zuJ_3, zuP_1, zuP_2, zuP_3, zuC_1, zuC_2, reduceIte, Nat.reduceEqDiff, false_and, and_false, true_and, and_true, and_self, or_true, true_or, or_false, false_or]; omega)) (by repeat (first | exact zsm_rf | assumption | refine zsm_C (by decide) ?_ | refine zsm_I (by decide) ?_ | refine zsm_J ?_ | refine zsm_c (by assumption) (by decide) ?_)) (by first | omega | rfl | (simp only [zuI_1, zuI_2, zuJ_1, zuJ_2, zuJ_3, zuP_1, zuP_2, zuP_3, zuC_1, zuC_2, reduceIte, Nat.reduceEqDiff, false_and, and_false, true_and, and_true, and_self, or_true, true_or, or_false, false_or]; done) | (simp only [zuI_1, zuI_2, zuJ_1, zuJ_2, zuJ_3, zuP_1, zuP_2, zuP_3, zuC_1, zuC_2, reduceIte, Nat.reduceEqDiff, false_and, and_false, true_and, and_true, and_self, or_true, true_or, or_false, false_or]; omega)) (Nat.lt_succ_self _)) (zwk_s rfl (zwk_s rfl (zwk_s rfl (zwk_s rfl zwk_0))))

set_option maxHeartbeats 4000000 in
set_option maxRecDepth 100000 in
theorem c_X9_runE {l : Launch} {Γ : zΓ} {G : zH} {w : Nat} {a b : Int} (hX : zXs Γ) (hM : MI Γ w G) : zMet l Γ yX9_run cX9_run 3 (some .int) 8 [zr 10 w, zi a, zi b] G (zpi (fun x G' => zsm [1050, 2091, 2092, 2093, 2094, 2095, 2096, 2097, 2098, 2099, 2100, 2088, 2087, 2082, 2084, 2083, 2089, 2086, 1073, 2090, 2081, 2085, 1072, 1074, 1075, 1002] G G' ∧ (G'.1 2090 (Γ.2.1 w 60) (0 : Int).toNat = G.1 2090 (Γ.2.1 w 60) (0 : Int).toNat))) := by
  refine zMet_of RX9 hX (by decide) rfl (Nat.le_of_ble_eq_true rfl) ?_
  intro p e s m args below meth c C hr hlk
  show Z p l e (zrm 8) s m args below meth c Γ 3 0 0 (MQ below (zQc Γ (zpi (fun x G' => zsm [1050, 2091, 2092, 2093, 2094, 2095, 2096, 2097, 2098, 2099, 2100, 2088, 2087, 2082, 2084, 2083, 2089, 2086, 1073, 2090, 2081, 2085, 1072, 1074, 1075, 1002] G G' ∧ (G'.1 2090 (Γ.2.1 w 60) (0 : Int).toNat = G.1 2090 (Γ.2.1 w 60) (0 : Int).toNat)))) args s 0 0 (zA Γ)) 0 [some (zr 10 w), some (zi a), some (zi b)] [] G
  refine zs_loc 1 rfl (fun ha1 hb1 => ?_)
  refine zs_loc 2 rfl (fun ha2 hb2 => ?_)
  refine zs_aload_n (pc := 0) C dX9_run_0 rfl ?_
  refine zs_iconst (pc := 1) C dX9_run_1 (by decide) ?_
  refine zs_puti (r := 1002) (pc := 2) C dX9_run_2 w_X9_178 f_10_2 rfl (r_1002 0) (by omega) ?_
  refine zs_aload_n (pc := 5) C dX9_run_5 rfl ?_
  refine zs_iload_n (pc := 6) C dX9_run_6 rfl ?_
  refine zVip1 (pc := 7) C dX9_run_7 v_X9_492 (c_X9_isRun hX ) (by decide) (by decide) ⟨Nat.zero_le _, Nat.zero_le _⟩ (Nat.le_of_ble_eq_true rfl) (fun x7 l7 u7 hp7 => ?_)
  have hq7 := hp7
  try simp only [zuI_1, zuI_2, zuJ_1, zuJ_2, zuJ_3, zuP_1, zuP_2, zuP_3, zuC_1, zuC_2, reduceIte, Nat.reduceEqDiff, false_and, and_false, true_and, and_true, and_self, or_true, true_or, or_false, false_or] at hq7
  refine zs_if_eq (tgt := 20) (pc := 10) C dX9_run_10 (by decide) (fun h10 => ?_) (fun h10 => ?_)
  · skip
    refine zs_iconst (pc := 20) C dX9_run_20 (by decide) ?_
    exact zs_iret (pc := 21) C hr hlk dX9_run_21 ⟨by repeat (first | exact zsm_rf | assumption | refine zsm_C (by decide) ?_ | refine zsm_I (by decide) ?_ | refine zsm_J ?_ | refine zsm_c (by assumption) (by decide) ?_), (by first | omega | rfl | (simp only [zuI_1, zuI_2, zuJ_1, zuJ_2, zuJ_3, zuP_1, zuP_2, zuP_3, zuC_1, zuC_2, reduceIte, Nat.reduceEqDiff, false_and, and_false, true_and, and_true, and_self, or_true, true_or, or_false, false_or]; done) | (simp only [zuI_1, zuI_2, zuJ_1, zuJ_2, zuJ_3, zuP_1, zuP_2, zuP_3, zuC_1, zuC_2, reduceIte, Nat.reduceEqDiff, false_and, and_false, true_and, and_true, and_self, or_true, true_or, or_false, false_or]; omega))⟩
  · skip
    refine zs_iload_n (pc := 13) C dX9_run_13 rfl ?_
    refine zSip1 (pc := 14) C dX9_run_14 s_X9_465 (c_X9_isFine hX ) (by decide) ⟨Nat.zero_le _, Nat.zero_le _⟩ (Nat.le_of_ble_eq_true rfl) (fun x14 l14 u14 hp14 => ?_)
    have hq14 := hp14
    try simp only [zuI_1, zuI_2, zuJ_1, zuJ_2, zuJ_3, zuP_1, zuP_2, zuP_3, zuC_1, zuC_2, reduceIte, Nat.reduceEqDiff, false_and, and_false, true_and, and_true, and_self, or_true, true_or, or_false, false_or] at hq14
    refine zs_if_ne (tgt := 22) (pc := 17) C dX9_run_17 (by decide) (fun h17 => ?_) (fun h17 => ?_)
    · skip
      refine zs_aload_n (pc := 22) C dX9_run_22 rfl ?_
      refine zVv0 (pc := 23) C dX9_run_23 v_X9_495 (c_X9_layTriedE hX ) (by decide) (by decide) ⟨Nat.zero_le _, Nat.zero_le _⟩ (Nat.le_of_ble_eq_true rfl) (fun G23 hp23 => ?_)
      obtain ⟨hz23, hq23⟩ := hp23
      try simp only [zuI_1, zuI_2, zuJ_1, zuJ_2, zuJ_3, zuP_1, zuP_2, zuP_3, zuC_1, zuC_2, reduceIte, Nat.reduceEqDiff, false_and, and_false, true_and, and_true, and_self, or_true, true_or, or_false, false_or] at hq23
      refine zs_aload_n (pc := 26) C dX9_run_26 rfl ?_
      refine zs_iload_n (pc := 27) C dX9_run_27 rfl ?_
      refine zs_iload_n (pc := 28) C dX9_run_28 rfl ?_
      refine zVi2 (pc := 29) C dX9_run_29 v_X9_498 (c_X9_runsE hX (by repeat (first | assumption | refine MI_I (by decide) ?_ | refine MI_J ?_ | refine MI_sm (by assumption) (by decide) ?_ | refine MI_sn (by assumption) (by decide) ?_))) (by decide) (by decide) ⟨Nat.zero_le _, Nat.zero_le _⟩ (Nat.le_of_ble_eq_true rfl) (fun x29 G29 l29 u29 hp29 => ?_)
      obtain ⟨hz29, hq29⟩ := hp29
      exact zs_iret (pc := 32) C hr hlk dX9_run_32 ⟨by repeat (first | exact zsm_rf | assumption | refine zsm_C (by decide) ?_ | refine zsm_I (by decide) ?_ | refine zsm_J ?_ | refine zsm_c (by assumption) (by decide) ?_), (by first | omega | rfl | (simp only [zuI_1, zuI_2, zuJ_1, zuJ_2, zuJ_3, zuP_1, zuP_2, zuP_3, zuC_1, zuC_2, reduceIte, Nat.reduceEqDiff, false_and, and_false, true_and, and_true, and_self, or_true, true_or, or_false, false_or]; done) | (simp only [zuI_1, zuI_2, zuJ_1, zuJ_2, zuJ_3, zuP_1, zuP_2, zuP_3, zuC_1, zuC_2, reduceIte, Nat.reduceEqDiff, false_and, and_false, true_and, and_true, and_self, or_true, true_or, or_false, false_or]; omega))⟩
    · skip
      refine zs_iconst (pc := 20) C dX9_run_20 (by decide) ?_
      exact zs_iret (pc := 21) C hr hlk dX9_run_21 ⟨by repeat (first | exact zsm_rf | assumption | refine zsm_C (by decide) ?_ | refine zsm_I (by decide) ?_ | refine zsm_J ?_ | refine zsm_c (by assumption) (by decide) ?_), (by first | omega | rfl | (simp only [zuI_1, zuI_2, zuJ_1, zuJ_2, zuJ_3, zuP_1, zuP_2, zuP_3, zuC_1, zuC_2, reduceIte, Nat.reduceEqDiff, false_and, and_false, true_and, and_true, and_self, or_true, true_or, or_false, false_or]; done) | (simp only [zuI_1, zuI_2, zuJ_1, zuJ_2, zuJ_3, zuP_1, zuP_2, zuP_3, zuC_1, zuC_2, reduceIte, Nat.reduceEqDiff, false_and, and_false, true_and, and_true, and_self, or_true, true_or, or_false, false_or]; omega))⟩

set_option maxHeartbeats 4000000 in
set_option maxRecDepth 100000 in
theorem c_X9_triedE {l : Launch} {Γ : zΓ} {G : zH} {w : Nat} {k k2 a b : Int} (hX : zXs Γ) (hM : MI Γ w G) : zMet l Γ yX9_tried cX9_tried 5 (some .int) 8 [zr 10 w, zi k, zi k2, zi a, zi b] G (zpi (fun x G' => zsm [1050, 2091, 2092, 2093, 2094, 2095, 2096, 2097, 2098, 2099, 2100, 2088, 2087, 2082, 2084, 2083, 2089, 2086, 1073, 2090, 2081, 2085, 1072, 1074, 1075, 1002] G G' ∧ (G'.1 2090 (Γ.2.1 w 60) (0 : Int).toNat = G.1 2090 (Γ.2.1 w 60) (0 : Int).toNat))) := by
  refine zMet_of RX9 hX (by decide) rfl (Nat.le_of_ble_eq_true rfl) ?_
  intro p e s m args below meth c C hr hlk
  show Z p l e (zrm 8) s m args below meth c Γ 5 0 0 (MQ below (zQc Γ (zpi (fun x G' => zsm [1050, 2091, 2092, 2093, 2094, 2095, 2096, 2097, 2098, 2099, 2100, 2088, 2087, 2082, 2084, 2083, 2089, 2086, 1073, 2090, 2081, 2085, 1072, 1074, 1075, 1002] G G' ∧ (G'.1 2090 (Γ.2.1 w 60) (0 : Int).toNat = G.1 2090 (Γ.2.1 w 60) (0 : Int).toNat)))) args s 0 0 (zA Γ)) 0 [some (zr 10 w), some (zi k), some (zi k2), some (zi a), some (zi b)] [] G
  refine zs_loc 1 rfl (fun ha1 hb1 => ?_)
  refine zs_loc 2 rfl (fun ha2 hb2 => ?_)
  refine zs_loc 3 rfl (fun ha3 hb3 => ?_)
  refine zs_loc 4 rfl (fun ha4 hb4 => ?_)
  refine zs_aload_n (pc := 0) C dX9_tried_0 rfl ?_
  refine zs_iconst (pc := 1) C dX9_tried_1 (by decide) ?_
  refine zs_puti (r := 1002) (pc := 2) C dX9_tried_2 w_X9_178 f_10_2 rfl (r_1002 0) (by omega) ?_
  refine zs_iload_n (pc := 5) C dX9_tried_5 rfl ?_
  refine zs_iconst (pc := 6) C dX9_tried_6 (by decide) ?_
  refine zs_iconst (pc := 7) C dX9_tried_7 (by decide) ?_
  refine zSip3 (pc := 8) C dX9_tried_8 s_X9_223 (c_X9_isIn hX ) (by decide) ⟨Nat.zero_le _, Nat.zero_le _⟩ (Nat.le_of_ble_eq_true rfl) (fun x8 l8 u8 hp8 => ?_)
  have hq8 := hp8
  try simp only [zuI_1, zuI_2, zuJ_1, zuJ_2, zuJ_3, zuP_1, zuP_2, zuP_3, zuC_1, zuC_2, reduceIte, Nat.reduceEqDiff, false_and, and_false, true_and, and_true, and_self, or_true, true_or, or_false, false_or] at hq8
  refine zs_if_eq (tgt := 30) (pc := 11) C dX9_tried_11 (by decide) (fun h11 => ?_) (fun h11 => ?_)
  · skip
    refine zs_iconst (pc := 30) C dX9_tried_30 (by decide) ?_
    exact zs_iret (pc := 31) C hr hlk dX9_tried_31 ⟨by repeat (first | exact zsm_rf | assumption | refine zsm_C (by decide) ?_ | refine zsm_I (by decide) ?_ | refine zsm_J ?_ | refine zsm_c (by assumption) (by decide) ?_), (by first | omega | rfl | (simp only [zuI_1, zuI_2, zuJ_1, zuJ_2, zuJ_3, zuP_1, zuP_2, zuP_3, zuC_1, zuC_2, reduceIte, Nat.reduceEqDiff, false_and, and_false, true_and, and_true, and_self, or_true, true_or, or_false, false_or]; done) | (simp only [zuI_1, zuI_2, zuJ_1, zuJ_2, zuJ_3, zuP_1, zuP_2, zuP_3, zuC_1, zuC_2, reduceIte, Nat.reduceEqDiff, false_and, and_false, true_and, and_true, and_self, or_true, true_or, or_false, false_or]; omega))⟩
  · skip
    refine zs_aload_n (pc := 14) C dX9_tried_14 rfl ?_
    refine zs_iload_n (pc := 15) C dX9_tried_15 rfl ?_
    refine zVip1 (pc := 16) C dX9_tried_16 v_X9_492 (c_X9_isRun hX ) (by decide) (by decide) ⟨Nat.zero_le _, Nat.zero_le _⟩ (Nat.le_of_ble_eq_true rfl) (fun x16 l16 u16 hp16 => ?_)
    have hq16 := hp16
    try simp only [zuI_1, zuI_2, zuJ_1, zuJ_2, zuJ_3, zuP_1, zuP_2, zuP_3, zuC_1, zuC_2, reduceIte, Nat.reduceEqDiff, false_and, and_false, true_and, and_true, and_self, or_true, true_or, or_false, false_or] at hq16
    refine zs_if_eq (tgt := 30) (pc := 19) C dX9_tried_19 (by decide) (fun h19 => ?_) (fun h19 => ?_)
    · skip
      refine zs_iconst (pc := 30) C dX9_tried_30 (by decide) ?_
      exact zs_iret (pc := 31) C hr hlk dX9_tried_31 ⟨by repeat (first | exact zsm_rf | assumption | refine zsm_C (by decide) ?_ | refine zsm_I (by decide) ?_ | refine zsm_J ?_ | refine zsm_c (by assumption) (by decide) ?_), (by first | omega | rfl | (simp only [zuI_1, zuI_2, zuJ_1, zuJ_2, zuJ_3, zuP_1, zuP_2, zuP_3, zuC_1, zuC_2, reduceIte, Nat.reduceEqDiff, false_and, and_false, true_and, and_true, and_self, or_true, true_or, or_false, false_or]; done) | (simp only [zuI_1, zuI_2, zuJ_1, zuJ_2, zuJ_3, zuP_1, zuP_2, zuP_3, zuC_1, zuC_2, reduceIte, Nat.reduceEqDiff, false_and, and_false, true_and, and_true, and_self, or_true, true_or, or_false, false_or]; omega))⟩
    · skip
      refine zs_iload (pc := 22) C dX9_tried_22 rfl ?_
      refine zSip1 (pc := 24) C dX9_tried_24 s_X9_465 (c_X9_isFine hX ) (by decide) ⟨Nat.zero_le _, Nat.zero_le _⟩ (Nat.le_of_ble_eq_true rfl) (fun x24 l24 u24 hp24 => ?_)
      have hq24 := hp24
      try simp only [zuI_1, zuI_2, zuJ_1, zuJ_2, zuJ_3, zuP_1, zuP_2, zuP_3, zuC_1, zuC_2, reduceIte, Nat.reduceEqDiff, false_and, and_false, true_and, and_true, and_self, or_true, true_or, or_false, false_or] at hq24
      refine zs_if_ne (tgt := 32) (pc := 27) C dX9_tried_27 (by decide) (fun h27 => ?_) (fun h27 => ?_)
      · skip
        refine zs_iload_n (pc := 32) C dX9_tried_32 rfl ?_
        refine zs_iconst (pc := 33) C dX9_tried_33 (by decide) ?_
        refine zs_icmp_ne (tgt := 48) (pc := 34) C dX9_tried_34 (by decide) (fun h34 => ?_) (fun h34 => ?_)
        · skip
          refine zs_iload_n (pc := 48) C dX9_tried_48 rfl ?_
          refine zs_iconst (pc := 49) C dX9_tried_49 (by decide) ?_
          refine zs_icmp_ne (tgt := 64) (pc := 50) C dX9_tried_50 (by decide) (fun h50 => ?_) (fun h50 => ?_)
          · skip
            refine zs_iload_n (pc := 64) C dX9_tried_64 rfl ?_
            refine zs_if_eq (tgt := 70) (pc := 65) C dX9_tried_65 (by decide) (fun h65 => ?_) (fun h65 => ?_)
            · skip
              refine zs_aload_n (pc := 70) C dX9_tried_70 rfl ?_
              refine zVv0 (pc := 71) C dX9_tried_71 v_X9_495 (c_X9_layTriedE hX ) (by decide) (by decide) ⟨Nat.zero_le _, Nat.zero_le _⟩ (Nat.le_of_ble_eq_true rfl) (fun G71 hp71 => ?_)
              obtain ⟨hz71, hq71⟩ := hp71
              try simp only [zuI_1, zuI_2, zuJ_1, zuJ_2, zuJ_3, zuP_1, zuP_2, zuP_3, zuC_1, zuC_2, reduceIte, Nat.reduceEqDiff, false_and, and_false, true_and, and_true, and_self, or_true, true_or, or_false, false_or] at hq71
              refine zs_aload_n (pc := 74) C dX9_tried_74 rfl ?_
              refine zs_iload_n (pc := 75) C dX9_tried_75 rfl ?_
              refine zs_puti (r := 1074) (pc := 76) C dX9_tried_76 w_X9_148 f_10_74 rfl (r_1074 0) (by omega) ?_
              refine zs_aload_n (pc := 79) C dX9_tried_79 rfl ?_
              refine zs_iload_n (pc := 80) C dX9_tried_80 rfl ?_
              refine zs_puti (r := 1075) (pc := 81) C dX9_tried_81 w_X9_482 f_10_75 rfl (r_1075 0) (by omega) ?_
              refine zs_aload_n (pc := 84) C dX9_tried_84 rfl ?_
              refine zs_iload_n (pc := 85) C dX9_tried_85 rfl ?_
              refine zs_iload (pc := 86) C dX9_tried_86 rfl ?_
              refine zVi2 (pc := 88) C dX9_tried_88 v_X9_498 (c_X9_runsE hX (by repeat (first | assumption | refine MI_I (by decide) ?_ | refine MI_J ?_ | refine MI_sm (by assumption) (by decide) ?_ | refine MI_sn (by assumption) (by decide) ?_))) (by decide) (by decide) ⟨Nat.zero_le _, Nat.zero_le _⟩ (Nat.le_of_ble_eq_true rfl) (fun x88 G88 l88 u88 hp88 => ?_)
              obtain ⟨hz88, hq88⟩ := hp88
              try simp only [zuI_1, zuI_2, zuJ_1, zuJ_2, zuJ_3, zuP_1, zuP_2, zuP_3, zuC_1, zuC_2, reduceIte, Nat.reduceEqDiff, false_and, and_false, true_and, and_true, and_self, or_true, true_or, or_false, false_or] at hq88
              exact zs_iret (pc := 91) C hr hlk dX9_tried_91 ⟨by repeat (first | exact zsm_rf | assumption | refine zsm_C (by decide) ?_ | refine zsm_I (by decide) ?_ | refine zsm_J ?_ | refine zsm_c (by assumption) (by decide) ?_), (by first | omega | rfl | (simp only [zuI_1, zuI_2, zuJ_1, zuJ_2, zuJ_3, zuP_1, zuP_2, zuP_3, zuC_1, zuC_2, reduceIte, Nat.reduceEqDiff, false_and, and_false, true_and, and_true, and_self, or_true, true_or, or_false, false_or]; done) | (simp only [zuI_1, zuI_2, zuJ_1, zuJ_2, zuJ_3, zuP_1, zuP_2, zuP_3, zuC_1, zuC_2, reduceIte, Nat.reduceEqDiff, false_and, and_false, true_and, and_true, and_self, or_true, true_or, or_false, false_or]; omega))⟩
            · skip
              refine zs_iconst (pc := 68) C dX9_tried_68 (by decide) ?_
              exact zs_iret (pc := 69) C hr hlk dX9_tried_69 ⟨by repeat (first | exact zsm_rf | assumption | refine zsm_C (by decide) ?_ | refine zsm_I (by decide) ?_ | refine zsm_J ?_ | refine zsm_c (by assumption) (by decide) ?_), (by first | omega | rfl | (simp only [zuI_1, zuI_2, zuJ_1, zuJ_2, zuJ_3, zuP_1, zuP_2, zuP_3, zuC_1, zuC_2, reduceIte, Nat.reduceEqDiff, false_and, and_false, true_and, and_true, and_self, or_true, true_or, or_false, false_or]; done) | (simp only [zuI_1, zuI_2, zuJ_1, zuJ_2, zuJ_3, zuP_1, zuP_2, zuP_3, zuC_1, zuC_2, reduceIte, Nat.reduceEqDiff, false_and, and_false, true_and, and_true, and_self, or_true, true_or, or_false, false_or]; omega))⟩
          · skip
            refine zs_aload_n (pc := 53) C dX9_tried_53 rfl ?_
            refine zs_iload_n (pc := 54) C dX9_tried_54 rfl ?_
            refine zVip1 (pc := 55) C dX9_tried_55 v_X9_407 (c_X9_isSin hX ) (by decide) (by decide) ⟨Nat.zero_le _, Nat.zero_le _⟩ (Nat.le_of_ble_eq_true rfl) (fun x55 l55 u55 hp55 => ?_)
            have hq55 := hp55
            try simp only [zuI_1, zuI_2, zuJ_1, zuJ_2, zuJ_3, zuP_1, zuP_2, zuP_3, zuC_1, zuC_2, reduceIte, Nat.reduceEqDiff, false_and, and_false, true_and, and_true, and_self, or_true, true_or, or_false, false_or] at hq55
            refine zs_if_ne (tgt := 70) (pc := 58) C dX9_tried_58 (by decide) (fun h58 => ?_) (fun h58 => ?_)
            · skip
              refine zs_aload_n (pc := 70) C dX9_tried_70 rfl ?_
              refine zVv0 (pc := 71) C dX9_tried_71 v_X9_495 (c_X9_layTriedE hX ) (by decide) (by decide) ⟨Nat.zero_le _, Nat.zero_le _⟩ (Nat.le_of_ble_eq_true rfl) (fun G71 hp71 => ?_)
              obtain ⟨hz71, hq71⟩ := hp71
              try simp only [zuI_1, zuI_2, zuJ_1, zuJ_2, zuJ_3, zuP_1, zuP_2, zuP_3, zuC_1, zuC_2, reduceIte, Nat.reduceEqDiff, false_and, and_false, true_and, and_true, and_self, or_true, true_or, or_false, false_or] at hq71
              refine zs_aload_n (pc := 74) C dX9_tried_74 rfl ?_
              refine zs_iload_n (pc := 75) C dX9_tried_75 rfl ?_
              refine zs_puti (r := 1074) (pc := 76) C dX9_tried_76 w_X9_148 f_10_74 rfl (r_1074 0) (by omega) ?_
              refine zs_aload_n (pc := 79) C dX9_tried_79 rfl ?_
              refine zs_iload_n (pc := 80) C dX9_tried_80 rfl ?_
              refine zs_puti (r := 1075) (pc := 81) C dX9_tried_81 w_X9_482 f_10_75 rfl (r_1075 0) (by omega) ?_
              refine zs_aload_n (pc := 84) C dX9_tried_84 rfl ?_
              refine zs_iload_n (pc := 85) C dX9_tried_85 rfl ?_
              refine zs_iload (pc := 86) C dX9_tried_86 rfl ?_
              refine zVi2 (pc := 88) C dX9_tried_88 v_X9_498 (c_X9_runsE hX (by repeat (first | assumption | refine MI_I (by decide) ?_ | refine MI_J ?_ | refine MI_sm (by assumption) (by decide) ?_ | refine MI_sn (by assumption) (by decide) ?_))) (by decide) (by decide) ⟨Nat.zero_le _, Nat.zero_le _⟩ (Nat.le_of_ble_eq_true rfl) (fun x88 G88 l88 u88 hp88 => ?_)
              obtain ⟨hz88, hq88⟩ := hp88
              try simp only [zuI_1, zuI_2, zuJ_1, zuJ_2, zuJ_3, zuP_1, zuP_2, zuP_3, zuC_1, zuC_2, reduceIte, Nat.reduceEqDiff, false_and, and_false, true_and, and_true, and_self, or_true, true_or, or_false, false_or] at hq88
              exact zs_iret (pc := 91) C hr hlk dX9_tried_91 ⟨by repeat (first | exact zsm_rf | assumption | refine zsm_C (by decide) ?_ | refine zsm_I (by decide) ?_ | refine zsm_J ?_ | refine zsm_c (by assumption) (by decide) ?_), (by first | omega | rfl | (simp only [zuI_1, zuI_2, zuJ_1, zuJ_2, zuJ_3, zuP_1, zuP_2, zuP_3, zuC_1, zuC_2, reduceIte, Nat.reduceEqDiff, false_and, and_false, true_and, and_true, and_self, or_true, true_or, or_false, false_or]; done) | (simp only [zuI_1, zuI_2, zuJ_1, zuJ_2, zuJ_3, zuP_1, zuP_2, zuP_3, zuC_1, zuC_2, reduceIte, Nat.reduceEqDiff, false_and, and_false, true_and, and_true, and_self, or_true, true_or, or_false, false_or]; omega))⟩
            · skip
              refine zs_goto (tgt := 68) (pc := 61) C dX9_tried_61 (by decide) ?_
              refine zs_iconst (pc := 68) C dX9_tried_68 (by decide) ?_
              exact zs_iret (pc := 69) C hr hlk dX9_tried_69 ⟨by repeat (first | exact zsm_rf | assumption | refine zsm_C (by decide) ?_ | refine zsm_I (by decide) ?_ | refine zsm_J ?_ | refine zsm_c (by assumption) (by decide) ?_), (by first | omega | rfl | (simp only [zuI_1, zuI_2, zuJ_1, zuJ_2, zuJ_3, zuP_1, zuP_2, zuP_3, zuC_1, zuC_2, reduceIte, Nat.reduceEqDiff, false_and, and_false, true_and, and_true, and_self, or_true, true_or, or_false, false_or]; done) | (simp only [zuI_1, zuI_2, zuJ_1, zuJ_2, zuJ_3, zuP_1, zuP_2, zuP_3, zuC_1, zuC_2, reduceIte, Nat.reduceEqDiff, false_and, and_false, true_and, and_true, and_self, or_true, true_or, or_false, false_or]; omega))⟩
        · skip
          refine zs_aload_n (pc := 37) C dX9_tried_37 rfl ?_
          refine zs_iload_n (pc := 38) C dX9_tried_38 rfl ?_
          refine zVip1 (pc := 39) C dX9_tried_39 v_X9_398 (c_X9_isPerson hX ) (by decide) (by decide) ⟨Nat.zero_le _, Nat.zero_le _⟩ (Nat.le_of_ble_eq_true rfl) (fun x39 l39 u39 hp39 => ?_)
          have hq39 := hp39
          try simp only [zuI_1, zuI_2, zuJ_1, zuJ_2, zuJ_3, zuP_1, zuP_2, zuP_3, zuC_1, zuC_2, reduceIte, Nat.reduceEqDiff, false_and, and_false, true_and, and_true, and_self, or_true, true_or, or_false, false_or] at hq39
          refine zs_if_ne (tgt := 70) (pc := 42) C dX9_tried_42 (by decide) (fun h42 => ?_) (fun h42 => ?_)
          · skip
            refine zs_aload_n (pc := 70) C dX9_tried_70 rfl ?_
            refine zVv0 (pc := 71) C dX9_tried_71 v_X9_495 (c_X9_layTriedE hX ) (by decide) (by decide) ⟨Nat.zero_le _, Nat.zero_le _⟩ (Nat.le_of_ble_eq_true rfl) (fun G71 hp71 => ?_)
            obtain ⟨hz71, hq71⟩ := hp71
            try simp only [zuI_1, zuI_2, zuJ_1, zuJ_2, zuJ_3, zuP_1, zuP_2, zuP_3, zuC_1, zuC_2, reduceIte, Nat.reduceEqDiff, false_and, and_false, true_and, and_true, and_self, or_true, true_or, or_false, false_or] at hq71
            refine zs_aload_n (pc := 74) C dX9_tried_74 rfl ?_
            refine zs_iload_n (pc := 75) C dX9_tried_75 rfl ?_
            refine zs_puti (r := 1074) (pc := 76) C dX9_tried_76 w_X9_148 f_10_74 rfl (r_1074 0) (by omega) ?_
            refine zs_aload_n (pc := 79) C dX9_tried_79 rfl ?_
            refine zs_iload_n (pc := 80) C dX9_tried_80 rfl ?_
            refine zs_puti (r := 1075) (pc := 81) C dX9_tried_81 w_X9_482 f_10_75 rfl (r_1075 0) (by omega) ?_
            refine zs_aload_n (pc := 84) C dX9_tried_84 rfl ?_
            refine zs_iload_n (pc := 85) C dX9_tried_85 rfl ?_
            refine zs_iload (pc := 86) C dX9_tried_86 rfl ?_
            refine zVi2 (pc := 88) C dX9_tried_88 v_X9_498 (c_X9_runsE hX (by repeat (first | assumption | refine MI_I (by decide) ?_ | refine MI_J ?_ | refine MI_sm (by assumption) (by decide) ?_ | refine MI_sn (by assumption) (by decide) ?_))) (by decide) (by decide) ⟨Nat.zero_le _, Nat.zero_le _⟩ (Nat.le_of_ble_eq_true rfl) (fun x88 G88 l88 u88 hp88 => ?_)
            obtain ⟨hz88, hq88⟩ := hp88
            try simp only [zuI_1, zuI_2, zuJ_1, zuJ_2, zuJ_3, zuP_1, zuP_2, zuP_3, zuC_1, zuC_2, reduceIte, Nat.reduceEqDiff, false_and, and_false, true_and, and_true, and_self, or_true, true_or, or_false, false_or] at hq88
            exact zs_iret (pc := 91) C hr hlk dX9_tried_91 ⟨by repeat (first | exact zsm_rf | assumption | refine zsm_C (by decide) ?_ | refine zsm_I (by decide) ?_ | refine zsm_J ?_ | refine zsm_c (by assumption) (by decide) ?_), (by first | omega | rfl | (simp only [zuI_1, zuI_2, zuJ_1, zuJ_2, zuJ_3, zuP_1, zuP_2, zuP_3, zuC_1, zuC_2, reduceIte, Nat.reduceEqDiff, false_and, and_false, true_and, and_true, and_self, or_true, true_or, or_false, false_or]; done) | (simp only [zuI_1, zuI_2, zuJ_1, zuJ_2, zuJ_3, zuP_1, zuP_2, zuP_3, zuC_1, zuC_2, reduceIte, Nat.reduceEqDiff, false_and, and_false, true_and, and_true, and_self, or_true, true_or, or_false, false_or]; omega))⟩
          · skip
            refine zs_goto (tgt := 68) (pc := 45) C dX9_tried_45 (by decide) ?_
            refine zs_iconst (pc := 68) C dX9_tried_68 (by decide) ?_
            exact zs_iret (pc := 69) C hr hlk dX9_tried_69 ⟨by repeat (first | exact zsm_rf | assumption | refine zsm_C (by decide) ?_ | refine zsm_I (by decide) ?_ | refine zsm_J ?_ | refine zsm_c (by assumption) (by decide) ?_), (by first | omega | rfl | (simp only [zuI_1, zuI_2, zuJ_1, zuJ_2, zuJ_3, zuP_1, zuP_2, zuP_3, zuC_1, zuC_2, reduceIte, Nat.reduceEqDiff, false_and, and_false, true_and, and_true, and_self, or_true, true_or, or_false, false_or]; done) | (simp only [zuI_1, zuI_2, zuJ_1, zuJ_2, zuJ_3, zuP_1, zuP_2, zuP_3, zuC_1, zuC_2, reduceIte, Nat.reduceEqDiff, false_and, and_false, true_and, and_true, and_self, or_true, true_or, or_false, false_or]; omega))⟩
      · skip
        refine zs_iconst (pc := 30) C dX9_tried_30 (by decide) ?_
        exact zs_iret (pc := 31) C hr hlk dX9_tried_31 ⟨by repeat (first | exact zsm_rf | assumption | refine zsm_C (by decide) ?_ | refine zsm_I (by decide) ?_ | refine zsm_J ?_ | refine zsm_c (by assumption) (by decide) ?_), (by first | omega | rfl | (simp only [zuI_1, zuI_2, zuJ_1, zuJ_2, zuJ_3, zuP_1, zuP_2, zuP_3, zuC_1, zuC_2, reduceIte, Nat.reduceEqDiff, false_and, and_false, true_and, and_true, and_self, or_true, true_or, or_false, false_or]; done) | (simp only [zuI_1, zuI_2, zuJ_1, zuJ_2, zuJ_3, zuP_1, zuP_2, zuP_3, zuC_1, zuC_2, reduceIte, Nat.reduceEqDiff, false_and, and_false, true_and, and_true, and_self, or_true, true_or, or_false, false_or]; omega))⟩

set_option maxHeartbeats 4000000 in
set_option maxRecDepth 100000 in
theorem c_X9_fallsByE {l : Launch} {Γ : zΓ} {G : zH} {w : Nat} {c0 n : Int} (hX : zXs Γ) (hM : MI Γ w G)(hc : 0 ≤ c0 ∧ c0 ≤ 4)(hn : 0 ≤ n ∧ n ≤ 4)(hrw : ∀ i : Nat, i < 4 → G.1 2101 (Γ.2.1 w 76) i ≤ 19) : zMet l Γ yX9_fallsBy cX9_fallsBy 6 (some .int) 6 [zr 10 w, zi c0, zi n] G (zpi (fun x G' => zsm [2091, 2092, 2093, 2094, 2095, 2096, 2097, 2098, 2099, 2100, 2088, 2087, 2082, 2084, 2083, 2089, 1050, 2081, 2085, 2086, 2090, 1072, 1073, 1074] G G' ∧ (G'.1 2090 (Γ.2.1 w 60) (0 : Int).toNat = G.1 2090 (Γ.2.1 w 60) (0 : Int).toNat))) := by
  refine zMet_of RX9 hX (by decide) rfl (Nat.le_of_ble_eq_true rfl) ?_
  intro p e s m args below meth c C hr hlk
  show Z p l e (zrm 6) s m args below meth c Γ 6 0 0 (MQ below (zQc Γ (zpi (fun x G' => zsm [2091, 2092, 2093, 2094, 2095, 2096, 2097, 2098, 2099, 2100, 2088, 2087, 2082, 2084, 2083, 2089, 1050, 2081, 2085, 2086, 2090, 1072, 1073, 1074] G G' ∧ (G'.1 2090 (Γ.2.1 w 60) (0 : Int).toNat = G.1 2090 (Γ.2.1 w 60) (0 : Int).toNat)))) args s 0 0 (zA Γ)) 0 [some (zr 10 w), some (zi c0), some (zi n), none, none, none] [] G
  refine zs_loc 1 rfl (fun ha1 hb1 => ?_)
  refine zs_loc 2 rfl (fun ha2 hb2 => ?_)
  refine zs_aload_n (pc := 0) C dX9_fallsBy_0 rfl ?_
  refine zVv0 (pc := 1) C dX9_fallsBy_1 v_X9_495 (c_X9_layTriedE hX ) (by decide) (by decide) ⟨Nat.zero_le _, Nat.zero_le _⟩ (Nat.le_of_ble_eq_true rfl) (fun G1 hp1 => ?_)
  obtain ⟨hz1, hq1⟩ := hp1
  refine zs_iconst (pc := 4) C dX9_fallsBy_4 (by decide) ?_
  refine zs_istore_n (pc := 5) C dX9_fallsBy_5 (by decide) ?_
  dsimp only [zset, zclr, znone]
  refine zs_iconst (pc := 6) C dX9_fallsBy_6 (by decide) ?_
  refine zs_istore (pc := 7) C dX9_fallsBy_7 (by decide) ?_
  dsimp only [zset, zclr, znone]
  have L9 : ∀ (nn : Nat) (x3 x4 : Int) (G1 : zH), (0 ≤ x4 ∧ x4 ≤ n) → (zsm [2091, 2092, 2093, 2094, 2095, 2096, 2097, 2098, 2099, 2100, 2088, 2087, 2082, 2084, 2083, 2089, 1050, 2081, 2085, 2086, 2090, 1072, 1073, 1074] G G1) → (G1.1 2090 (Γ.2.1 w 60) (0 : Int).toNat = G.1 2090 (Γ.2.1 w 60) (0 : Int).toNat) → (n - x4).toNat < nn → Z p l e (zrm 6) s m args below meth c Γ 6 0 0 (MQ below (zQc Γ (zpi (fun x G' => zsm [2091, 2092, 2093, 2094, 2095, 2096, 2097, 2098, 2099, 2100, 2088, 2087, 2082, 2084, 2083, 2089, 1050, 2081, 2085, 2086, 2090, 1072, 1073, 1074] G G' ∧ (G'.1 2090 (Γ.2.1 w 60) (0 : Int).toNat = G.1 2090 (Γ.2.1 w 60) (0 : Int).toNat)))) args s 0 0 (zA Γ)) 9 [some (zr 10 w), some (zi c0), some (zi n), some (zi x3), some (zi x4), none] [] G1 := by
    intro nn
    induction nn with
    | zero => intro x3 x4 G1 h9_0 h9_1 h9_2 hm; exact absurd hm (Nat.not_lt_zero _)
    | succ nn ih9 =>
      intro x3 x4 G1 h9_0 h9_1 h9_2 hm9
      refine zs_iload (pc := 9) C dX9_fallsBy_9 rfl ?_
      refine zs_iload_n (pc := 11) C dX9_fallsBy_11 rfl ?_
      refine zs_icmp_ge (tgt := 112) (pc := 12) C dX9_fallsBy_12 (by decide) (fun h12 => ?_) (fun h12 => ?_)
      · skip
        refine zs_aload_n (pc := 112) C dX9_fallsBy_112 rfl ?_
        refine zs_iconst (pc := 113) C dX9_fallsBy_113 (by decide) ?_
        refine zs_aload_n (pc := 114) C dX9_fallsBy_114 rfl ?_
        refine zs_getf (pc := 115) C dX9_fallsBy_115 w_X9_45 f_10_30 (by decide) ?_
        refine zs_iload_n (pc := 118) C dX9_fallsBy_118 rfl ?_
        refine zs_iald (r := 2067) (pc := 119) C dX9_fallsBy_119 a_67 (by decide) (by omega) rfl (r_2067 _) (fun v119 e119 l119 u119 => ?_)
        refine zVip2 (pc := 120) C dX9_fallsBy_120 v_X9_468 (c_X9_flourOf hX (by omega)) (by decide) (by decide) ⟨Nat.zero_le _, Nat.zero_le _⟩ (Nat.le_of_ble_eq_true rfl) (fun x120 l120 u120 hp120 => ?_)
        have hq120 := hp120
        refine zs_aload_n (pc := 123) C dX9_fallsBy_123 rfl ?_
        refine zs_getf (pc := 124) C dX9_fallsBy_124 w_X9_48 f_10_31 (by decide) ?_
        refine zs_iload_n (pc := 127) C dX9_fallsBy_127 rfl ?_
        refine zs_iald (r := 2068) (pc := 128) C dX9_fallsBy_128 a_68 (by decide) (by omega) rfl (r_2068 _) (fun v128 e128 l128 u128 => ?_)
        refine zs_icmp_lt (tgt := 136) (pc := 129) C dX9_fallsBy_129 (by decide) (fun h129 => ?_) (fun h129 => ?_)
        · skip
          refine zs_iconst (pc := 136) C dX9_fallsBy_136 (by decide) ?_
          exact zs_iret (pc := 137) C hr hlk dX9_fallsBy_137 ⟨by repeat (first | exact zsm_rf | assumption | refine zsm_C (by decide) ?_ | refine zsm_I (by decide) ?_ | refine zsm_J ?_ | refine zsm_c (by assumption) (by decide) ?_), (by first | omega | rfl | (simp only [zuI_1, zuI_2, zuJ_1, zuJ_2, zuJ_3, zuP_1, zuP_2, zuP_3, zuC_1, zuC_2, reduceIte, Nat.reduceEqDiff, false_and, and_false, true_and, and_true, and_self, or_true, true_or, or_false, false_or]; done) | (simp only [zuI_1, zuI_2, zuJ_1, zuJ_2, zuJ_3, zuP_1, zuP_2, zuP_3, zuC_1, zuC_2, reduceIte, Nat.reduceEqDiff, false_and, and_false, true_and, and_true, and_self, or_true, true_or, or_false, false_or]; omega))⟩
        · skip
          refine zs_iload_n (pc := 132) C dX9_fallsBy_132 rfl ?_
          refine zs_goto (tgt := 137) (pc := 133) C dX9_fallsBy_133 (by decide) ?_
          exact zs_iret (pc := 137) C hr hlk dX9_fallsBy_137 ⟨by repeat (first | exact zsm_rf | assumption | refine zsm_C (by decide) ?_ | refine zsm_I (by decide) ?_ | refine zsm_J ?_ | refine zsm_c (by assumption) (by decide) ?_), (by first | omega | rfl | (simp only [zuI_1, zuI_2, zuJ_1, zuJ_2, zuJ_3, zuP_1, zuP_2, zuP_3, zuC_1, zuC_2, reduceIte, Nat.reduceEqDiff, false_and, and_false, true_and, and_true, and_self, or_true, true_or, or_false, false_or]; done) | (simp only [zuI_1, zuI_2, zuJ_1, zuJ_2, zuJ_3, zuP_1, zuP_2, zuP_3, zuC_1, zuC_2, reduceIte, Nat.reduceEqDiff, false_and, and_false, true_and, and_true, and_self, or_true, true_or, or_false, false_or]; omega))⟩
      · skip
        refine zs_aload_n (pc := 15) C dX9_fallsBy_15 rfl ?_
        refine zs_iconst (pc := 16) C dX9_fallsBy_16 (by decide) ?_
        refine zVip1 (pc := 17) C dX9_fallsBy_17 v_X9_439 (c_X9_canGrind hX (by omega)) (by decide) (by decide) ⟨Nat.zero_le _, Nat.zero_le _⟩ (Nat.le_of_ble_eq_true rfl) (fun x17 l17 u17 hp17 => ?_)
        have hq17 := hp17
        refine zs_if_ne (tgt := 25) (pc := 20) C dX9_fallsBy_20 (by decide) (fun h20 => ?_) (fun h20 => ?_)
        · skip
          have hrr := hrw x4.toNat (by omega)
          have t2101 := zsm_at h9_1 2101 (Γ.2.1 w 76) x4.toNat (by decide)
          refine zs_bipush (pc := 25) C dX9_fallsBy_25 (by decide) (by decide) ?_
          refine zs_aload_n (pc := 27) C dX9_fallsBy_27 rfl ?_
          refine zs_getf (pc := 28) C dX9_fallsBy_28 w_X9_151 f_10_76 (by decide) ?_
          refine zs_iload (pc := 31) C dX9_fallsBy_31 rfl ?_
          refine zs_iald (r := 2101) (pc := 33) C dX9_fallsBy_33 a_101 (by decide) (by omega) rfl (r_2101 _) (fun v33 e33 l33 u33 => ?_)
          first | refine zs_iadd (pc := 34) C dX9_fallsBy_34 (by omega) ?_ | refine zs_iaddF (pc := 34) C dX9_fallsBy_34 (fun z34 hz341 hz342 => ?_)
          refine zs_istore (pc := 35) C dX9_fallsBy_35 (by decide) ?_
          dsimp only [zset, zclr, znone]
          refine zs_aload_n (pc := 37) C dX9_fallsBy_37 rfl ?_
          refine zs_getf (pc := 38) C dX9_fallsBy_38 w_X9_88 f_10_51 (by decide) ?_
          refine zs_iload (pc := 41) C dX9_fallsBy_41 rfl ?_
          refine zs_iald (r := 2081) (pc := 43) C dX9_fallsBy_43 a_81 (by decide) (by omega) rfl (r_2081 _) (fun v43 e43 l43 u43 => ?_)
          refine zs_aload_n (pc := 44) C dX9_fallsBy_44 rfl ?_
          refine zs_getf (pc := 45) C dX9_fallsBy_45 w_X9_91 f_10_52 (by decide) ?_
          refine zs_iload (pc := 48) C dX9_fallsBy_48 rfl ?_
          refine zs_iald (r := 2082) (pc := 50) C dX9_fallsBy_50 a_82 (by decide) (by omega) rfl (r_2082 _) (fun v50 e50 l50 u50 => ?_)
          refine zs_icmp_ne (tgt := 82) (pc := 51) C dX9_fallsBy_51 (by decide) (fun h51 => ?_) (fun h51 => ?_)
          · skip
            refine zs_aload_n (pc := 82) C dX9_fallsBy_82 rfl ?_
            refine zs_iconst (pc := 83) C dX9_fallsBy_83 (by decide) ?_
            refine zs_aload_n (pc := 84) C dX9_fallsBy_84 rfl ?_
            refine zs_getf (pc := 85) C dX9_fallsBy_85 w_X9_151 f_10_76 (by decide) ?_
            refine zs_iload (pc := 88) C dX9_fallsBy_88 rfl ?_
            refine zs_iald (r := 2101) (pc := 90) C dX9_fallsBy_90 a_101 (by decide) (by omega) rfl (r_2101 _) (fun v90 e90 l90 u90 => ?_)
            refine zs_iconst (pc := 91) C dX9_fallsBy_91 (by decide) ?_
            first | refine zs_idiv (pc := 92) C dX9_fallsBy_92 (by omega) (by omega) (fun hz921 hz922 => ?_) | refine zs_idivF (pc := 92) C dX9_fallsBy_92 (by omega) (fun z92 hz921 hz922 => ?_)
            refine zs_aload_n (pc := 93) C dX9_fallsBy_93 rfl ?_
            refine zs_getf (pc := 94) C dX9_fallsBy_94 w_X9_151 f_10_76 (by decide) ?_
            refine zs_iload (pc := 97) C dX9_fallsBy_97 rfl ?_
            refine zs_iald (r := 2101) (pc := 99) C dX9_fallsBy_99 a_101 (by decide) (by omega) rfl (r_2101 _) (fun v99 e99 l99 u99 => ?_)
            refine zs_iconst (pc := 100) C dX9_fallsBy_100 (by decide) ?_
            first | refine zs_irem (pc := 101) C dX9_fallsBy_101 (by omega) (by omega) (fun hz1011 hz1012 => ?_) | refine zs_iremF (pc := 101) C dX9_fallsBy_101 (by omega) (fun z101 hz1011 hz1012 => ?_)
            refine zVi3 (pc := 102) C dX9_fallsBy_102 v_X9_445 (c_X9_grinds hX (by repeat (first | assumption | refine MI_I (by decide) ?_ | refine MI_J ?_ | refine MI_sm (by assumption) (by decide) ?_ | refine MI_sn (by assumption) (by decide) ?_)) (by omega) (by omega) (by omega) (by omega) (by omega)) (by decide) (by decide) ⟨Nat.zero_le _, Nat.zero_le _⟩ (Nat.le_of_ble_eq_true rfl) (fun x102 G102 l102 u102 hp102 => ?_)
            obtain ⟨hz102, hq102⟩ := hp102
            have tr102_2090 := zsm_at hz102 2090 (Γ.2.1 w 60) (0 : Int).toNat (by decide)
            try simp only [zuI_1, zuI_2, zuJ_1, zuJ_2, zuJ_3, zuP_1, zuP_2, zuP_3, zuC_1, zuC_2, reduceIte, Nat.reduceEqDiff, false_and, and_false, true_and, and_true, and_self, or_true, true_or, or_false, false_or] at tr102_2090
            refine zs_popi (pc := 105) C dX9_fallsBy_105 ?_
            first | refine zs_iinc (pc := 106) C dX9_fallsBy_106 rfl (by decide) (by omega) ?_ | refine zs_iincF (pc := 106) C dX9_fallsBy_106 rfl (by decide) (fun z106 hz1061 hz1062 => ?_)
            dsimp only [zset, zclr, znone]
            refine zs_goto (tgt := 9) (pc := 109) C dX9_fallsBy_109 (by decide) ?_
            exact zs_wk (ih9 _ _ _ (by first | omega | (simp only [zuI_1, zuI_2, zuJ_1, zuJ_2, zuJ_3, zuP_1, zuP_2, zuP_3, zuC_1, zuC_2, reduceIte, Nat.reduceEqDiff, false_and, and_false, true_and, and_true, and_self, or_true, true_or, or_false, false_or]; omega)) (by repeat (first | exact zsm_rf | assumption | refine zsm_C (by decide) ?_ | refine zsm_I (by decide) ?_ | refine zsm_J ?_ | refine zsm_c (by assumption) (by decide) ?_)) (by first | omega | rfl | (simp only [zuI_1, zuI_2, zuJ_1, zuJ_2, zuJ_3, zuP_1, zuP_2, zuP_3, zuC_1, zuC_2, reduceIte, Nat.reduceEqDiff, false_and, and_false, true_and, and_true, and_self, or_true, true_or, or_false, false_or]; done) | (simp only [zuI_1, zuI_2, zuJ_1, zuJ_2, zuJ_3, zuP_1, zuP_2, zuP_3, zuC_1, zuC_2, reduceIte, Nat.reduceEqDiff, false_and, and_false, true_and, and_true, and_self, or_true, true_or, or_false, false_or]; omega)) (by first | omega | (simp only [zuI_1, zuI_2, zuJ_1, zuJ_2, zuJ_3, zuP_1, zuP_2, zuP_3, zuC_1, zuC_2, reduceIte, Nat.reduceEqDiff, false_and, and_false, true_and, and_true, and_self, or_true, true_or, or_false, false_or]; omega))) (zwk_s rfl (zwk_s rfl (zwk_s rfl (zwk_s rfl (zwk_s rfl (zwk_n zwk_0))))))
          · skip
            refine zs_aload_n (pc := 54) C dX9_fallsBy_54 rfl ?_
            refine zs_getf (pc := 55) C dX9_fallsBy_55 w_X9_88 f_10_51 (by decide) ?_
            refine zs_iload (pc := 58) C dX9_fallsBy_58 rfl ?_
            refine zs_iald (r := 2081) (pc := 60) C dX9_fallsBy_60 a_81 (by decide) (by omega) rfl (r_2081 _) (fun v60 e60 l60 u60 => ?_)
            refine zs_bipush (pc := 61) C dX9_fallsBy_61 (by decide) (by decide) ?_
            refine zs_icmp_lt (tgt := 68) (pc := 63) C dX9_fallsBy_63 (by decide) (fun h63 => ?_) (fun h63 => ?_)
            · skip
              refine zs_aload_n (pc := 68) C dX9_fallsBy_68 rfl ?_
              refine zs_getf (pc := 69) C dX9_fallsBy_69 w_X9_88 f_10_51 (by decide) ?_
              refine zs_iload (pc := 72) C dX9_fallsBy_72 rfl ?_
              refine zs_dup2 (pc := 74) C dX9_fallsBy_74 ?_
              refine zs_iald (r := 2081) (pc := 75) C dX9_fallsBy_75 a_81 (by decide) (by omega) rfl (r_2081 _) (fun v75 e75 l75 u75 => ?_)
              refine zs_iconst (pc := 76) C dX9_fallsBy_76 (by decide) ?_
              first | refine zs_iadd (pc := 77) C dX9_fallsBy_77 (by omega) ?_ | refine zs_iaddF (pc := 77) C dX9_fallsBy_77 (fun z77 hz771 hz772 => ?_)
              refine zs_iast (r := 2081) (pc := 78) C dX9_fallsBy_78 a_81 (by decide) (by omega) rfl (r_2081 _) (by omega) ?_
              first | refine zs_iinc (pc := 79) C dX9_fallsBy_79 rfl (by decide) (by omega) ?_ | refine zs_iincF (pc := 79) C dX9_fallsBy_79 rfl (by decide) (fun z79 hz791 hz792 => ?_)
              dsimp only [zset, zclr, znone]
              refine zs_aload_n (pc := 82) C dX9_fallsBy_82 rfl ?_
              refine zs_iconst (pc := 83) C dX9_fallsBy_83 (by decide) ?_
              refine zs_aload_n (pc := 84) C dX9_fallsBy_84 rfl ?_
              refine zs_getf (pc := 85) C dX9_fallsBy_85 w_X9_151 f_10_76 (by decide) ?_
              refine zs_iload (pc := 88) C dX9_fallsBy_88 rfl ?_
              refine zs_iald (r := 2101) (pc := 90) C dX9_fallsBy_90 a_101 (by decide) (by omega) rfl (r_2101 _) (fun v90 e90 l90 u90 => ?_)
              try simp only [zuI_1, zuI_2, zuJ_1, zuJ_2, zuJ_3, zuP_1, zuP_2, zuP_3, zuC_1, zuC_2, reduceIte, Nat.reduceEqDiff, false_and, and_false, true_and, and_true, and_self, or_true, true_or, or_false, false_or] at e90
              refine zs_iconst (pc := 91) C dX9_fallsBy_91 (by decide) ?_
              first | refine zs_idiv (pc := 92) C dX9_fallsBy_92 (by omega) (by omega) (fun hz921 hz922 => ?_) | refine zs_idivF (pc := 92) C dX9_fallsBy_92 (by omega) (fun z92 hz921 hz922 => ?_)
              refine zs_aload_n (pc := 93) C dX9_fallsBy_93 rfl ?_
              refine zs_getf (pc := 94) C dX9_fallsBy_94 w_X9_151 f_10_76 (by decide) ?_
              refine zs_iload (pc := 97) C dX9_fallsBy_97 rfl ?_
              refine zs_iald (r := 2101) (pc := 99) C dX9_fallsBy_99 a_101 (by decide) (by omega) rfl (r_2101 _) (fun v99 e99 l99 u99 => ?_)
              try simp only [zuI_1, zuI_2, zuJ_1, zuJ_2, zuJ_3, zuP_1, zuP_2, zuP_3, zuC_1, zuC_2, reduceIte, Nat.reduceEqDiff, false_and, and_false, true_and, and_true, and_self, or_true, true_or, or_false, false_or] at e99
              refine zs_iconst (pc := 100) C dX9_fallsBy_100 (by decide) ?_
              first | refine zs_irem (pc := 101) C dX9_fallsBy_101 (by omega) (by omega) (fun hz1011 hz1012 => ?_) | refine zs_iremF (pc := 101) C dX9_fallsBy_101 (by omega) (fun z101 hz1011 hz1012 => ?_)
              refine zVi3 (pc := 102) C dX9_fallsBy_102 v_X9_445 (c_X9_grinds hX (by repeat (first | assumption | refine MI_I (by decide) ?_ | refine MI_J ?_ | refine MI_sm (by assumption) (by decide) ?_ | refine MI_sn (by assumption) (by decide) ?_)) (by first | omega | (simp only [zuI_1, zuI_2, zuJ_1, zuJ_2, zuJ_3, zuP_1, zuP_2, zuP_3, zuC_1, zuC_2, reduceIte, Nat.reduceEqDiff, false_and, and_false, true_and, and_true, and_self, or_true, true_or, or_false, false_or]; omega)) (by first | omega | (simp only [zuI_1, zuI_2, zuJ_1, zuJ_2, zuJ_3, zuP_1, zuP_2, zuP_3, zuC_1, zuC_2, reduceIte, Nat.reduceEqDiff, false_and, and_false, true_and, and_true, and_self, or_true, true_or, or_false, false_or]; omega)) (by first | omega | (simp only [zuI_1, zuI_2, zuJ_1, zuJ_2, zuJ_3, zuP_1, zuP_2, zuP_3, zuC_1, zuC_2, reduceIte, Nat.reduceEqDiff, false_and, and_false, true_and, and_true, and_self, or_true, true_or, or_false, false_or]; omega)) (by first | omega | (simp only [zuI_1, zuI_2, zuJ_1, zuJ_2, zuJ_3, zuP_1, zuP_2, zuP_3, zuC_1, zuC_2, reduceIte, Nat.reduceEqDiff, false_and, and_false, true_and, and_true, and_self, or_true, true_or, or_false, false_or]; omega)) (by first | omega | (simp only [zuI_1, zuI_2, zuJ_1, zuJ_2, zuJ_3, zuP_1, zuP_2, zuP_3, zuC_1, zuC_2, reduceIte, Nat.reduceEqDiff, false_and, and_false, true_and, and_true, and_self, or_true, true_or, or_false, false_or]; omega))) (by decide) (by decide) ⟨Nat.zero_le _, Nat.zero_le _⟩ (Nat.le_of_ble_eq_true rfl) (fun x102 G102 l102 u102 hp102 => ?_)
              obtain ⟨hz102, hq102⟩ := hp102
              try simp only [zuI_1, zuI_2, zuJ_1, zuJ_2, zuJ_3, zuP_1, zuP_2, zuP_3, zuC_1, zuC_2, reduceIte, Nat.reduceEqDiff, false_and, and_false, true_and, and_true, and_self, or_true, true_or, or_false, false_or] at hq102
              have tr102_2090 := zsm_at hz102 2090 (Γ.2.1 w 60) (0 : Int).toNat (by decide)
              try simp only [zuI_1, zuI_2, zuJ_1, zuJ_2, zuJ_3, zuP_1, zuP_2, zuP_3, zuC_1, zuC_2, reduceIte, Nat.reduceEqDiff, false_and, and_false, true_and, and_true, and_self, or_true, true_or, or_false, false_or] at tr102_2090
              refine zs_popi (pc := 105) C dX9_fallsBy_105 ?_
              first | refine zs_iinc (pc := 106) C dX9_fallsBy_106 rfl (by decide) (by omega) ?_ | refine zs_iincF (pc := 106) C dX9_fallsBy_106 rfl (by decide) (fun z106 hz1061 hz1062 => ?_)
              dsimp only [zset, zclr, znone]
              refine zs_goto (tgt := 9) (pc := 109) C dX9_fallsBy_109 (by decide) ?_
              exact zs_wk (ih9 _ _ _ (by first | omega | (simp only [zuI_1, zuI_2, zuJ_1, zuJ_2, zuJ_3, zuP_1, zuP_2, zuP_3, zuC_1, zuC_2, reduceIte, Nat.reduceEqDiff, false_and, and_false, true_and, and_true, and_self, or_true, true_or, or_false, false_or]; omega)) (by repeat (first | exact zsm_rf | assumption | refine zsm_C (by decide) ?_ | refine zsm_I (by decide) ?_ | refine zsm_J ?_ | refine zsm_c (by assumption) (by decide) ?_)) (by first | omega | rfl | (simp only [zuI_1, zuI_2, zuJ_1, zuJ_2, zuJ_3, zuP_1, zuP_2, zuP_3, zuC_1, zuC_2, reduceIte, Nat.reduceEqDiff, false_and, and_false, true_and, and_true, and_self, or_true, true_or, or_false, false_or]; done) | (simp only [zuI_1, zuI_2, zuJ_1, zuJ_2, zuJ_3, zuP_1, zuP_2, zuP_3, zuC_1, zuC_2, reduceIte, Nat.reduceEqDiff, false_and, and_false, true_and, and_true, and_self, or_true, true_or, or_false, false_or]; omega)) (by first | omega | (simp only [zuI_1, zuI_2, zuJ_1, zuJ_2, zuJ_3, zuP_1, zuP_2, zuP_3, zuC_1, zuC_2, reduceIte, Nat.reduceEqDiff, false_and, and_false, true_and, and_true, and_self, or_true, true_or, or_false, false_or]; omega))) (zwk_s rfl (zwk_s rfl (zwk_s rfl (zwk_s rfl (zwk_s rfl (zwk_n zwk_0))))))
            · skip
              refine zs_iconst (pc := 66) C dX9_fallsBy_66 (by decide) ?_
              exact zs_iret (pc := 67) C hr hlk dX9_fallsBy_67 ⟨by repeat (first | exact zsm_rf | assumption | refine zsm_C (by decide) ?_ | refine zsm_I (by decide) ?_ | refine zsm_J ?_ | refine zsm_c (by assumption) (by decide) ?_), (by first | omega | rfl | (simp only [zuI_1, zuI_2, zuJ_1, zuJ_2, zuJ_3, zuP_1, zuP_2, zuP_3, zuC_1, zuC_2, reduceIte, Nat.reduceEqDiff, false_and, and_false, true_and, and_true, and_self, or_true, true_or, or_false, false_or]; done) | (simp only [zuI_1, zuI_2, zuJ_1, zuJ_2, zuJ_3, zuP_1, zuP_2, zuP_3, zuC_1, zuC_2, reduceIte, Nat.reduceEqDiff, false_and, and_false, true_and, and_true, and_self, or_true, true_or, or_false, false_or]; omega))⟩
        · skip
          refine zs_iconst (pc := 23) C dX9_fallsBy_23 (by decide) ?_
          exact zs_iret (pc := 24) C hr hlk dX9_fallsBy_24 ⟨by repeat (first | exact zsm_rf | assumption | refine zsm_C (by decide) ?_ | refine zsm_I (by decide) ?_ | refine zsm_J ?_ | refine zsm_c (by assumption) (by decide) ?_), (by first | omega | rfl | (simp only [zuI_1, zuI_2, zuJ_1, zuJ_2, zuJ_3, zuP_1, zuP_2, zuP_3, zuC_1, zuC_2, reduceIte, Nat.reduceEqDiff, false_and, and_false, true_and, and_true, and_self, or_true, true_or, or_false, false_or]; done) | (simp only [zuI_1, zuI_2, zuJ_1, zuJ_2, zuJ_3, zuP_1, zuP_2, zuP_3, zuC_1, zuC_2, reduceIte, Nat.reduceEqDiff, false_and, and_false, true_and, and_true, and_self, or_true, true_or, or_false, false_or]; omega))⟩
  exact zs_wk (L9 _ _ _ _ (by first | omega | (simp only [zuI_1, zuI_2, zuJ_1, zuJ_2, zuJ_3, zuP_1, zuP_2, zuP_3, zuC_1, zuC_2, reduceIte, Nat.reduceEqDiff, false_and, and_false, true_and, and_true, and_self, or_true, true_or, or_false, false_or]; omega)) (by repeat (first | exact zsm_rf | assumption | refine zsm_C (by decide) ?_ | refine zsm_I (by decide) ?_ | refine zsm_J ?_ | refine zsm_c (by assumption) (by decide) ?_)) (by first | omega | rfl | (simp only [zuI_1, zuI_2, zuJ_1, zuJ_2, zuJ_3, zuP_1, zuP_2, zuP_3, zuC_1, zuC_2, reduceIte, Nat.reduceEqDiff, false_and, and_false, true_and, and_true, and_self, or_true, true_or, or_false, false_or]; done) | (simp only [zuI_1, zuI_2, zuJ_1, zuJ_2, zuJ_3, zuP_1, zuP_2, zuP_3, zuC_1, zuC_2, reduceIte, Nat.reduceEqDiff, false_and, and_false, true_and, and_true, and_self, or_true, true_or, or_false, false_or]; omega)) (Nat.lt_succ_self _)) (zwk_s rfl (zwk_s rfl (zwk_s rfl (zwk_s rfl (zwk_s rfl (zwk_n zwk_0))))))

set_option maxHeartbeats 4000000 in
set_option maxRecDepth 100000 in
theorem c_X9_layPlanE {l : Launch} {Γ : zΓ} {G : zH} {w : Nat} {c0 : Int} (hX : zXs Γ) (hM : MI Γ w G)(hc : 0 ≤ c0 ∧ c0 ≤ 4) : zMet l Γ yX9_layPlan cX9_layPlan 6 none 7 [zr 10 w, zi c0] G (zpv (fun G' => zsm [2091, 2092, 2093, 2094, 2095, 2096, 2097, 2098, 2099, 2100, 2088, 2087, 2082, 2084, 2083, 2089, 1050, 2081, 2085, 2086, 2090, 1072, 1073, 1074, 2101, 2102, 1078, 1079] G G' ∧ (G'.1 2090 (Γ.2.1 w 60) (0 : Int).toNat = G.1 2090 (Γ.2.1 w 60) (0 : Int).toNat))) := by
  refine zMet_of RX9 hX (by decide) rfl (Nat.le_of_ble_eq_true rfl) ?_
  intro p e s m args below meth c C hr hlk
  show Z p l e (zrm 7) s m args below meth c Γ 6 0 0 (MQ below (zQc Γ (zpv (fun G' => zsm [2091, 2092, 2093, 2094, 2095, 2096, 2097, 2098, 2099, 2100, 2088, 2087, 2082, 2084, 2083, 2089, 1050, 2081, 2085, 2086, 2090, 1072, 1073, 1074, 2101, 2102, 1078, 1079] G G' ∧ (G'.1 2090 (Γ.2.1 w 60) (0 : Int).toNat = G.1 2090 (Γ.2.1 w 60) (0 : Int).toNat)))) args s 0 0 (zA Γ)) 0 [some (zr 10 w), some (zi c0), none, none, none, none] [] G
  refine zs_loc 1 rfl (fun ha1 hb1 => ?_)
  refine zs_aload_n (pc := 0) C dX9_layPlan_0 rfl ?_
  refine zs_iconst (pc := 1) C dX9_layPlan_1 (by decide) ?_
  refine zs_puti (r := 1078) (pc := 2) C dX9_layPlan_2 w_X9_501 f_10_78 rfl (r_1078 0) (by omega) ?_
  refine zs_iconst (pc := 5) C dX9_layPlan_5 (by decide) ?_
  refine zs_istore_n (pc := 6) C dX9_layPlan_6 (by decide) ?_
  dsimp only [zset, zclr, znone]
  have L7 : ∀ (nn : Nat) (x2 : Int) (G1 : zH), (0 ≤ x2 ∧ x2 ≤ 5) → (zsm [2091, 2092, 2093, 2094, 2095, 2096, 2097, 2098, 2099, 2100, 2088, 2087, 2082, 2084, 2083, 2089, 1050, 2081, 2085, 2086, 2090, 1072, 1073, 1074, 2101, 2102, 1078, 1079] G G1) → (G1.1 2090 (Γ.2.1 w 60) (0 : Int).toNat = G.1 2090 (Γ.2.1 w 60) (0 : Int).toNat) → (5 - x2).toNat < nn → Z p l e (zrm 7) s m args below meth c Γ 6 0 0 (MQ below (zQc Γ (zpv (fun G' => zsm [2091, 2092, 2093, 2094, 2095, 2096, 2097, 2098, 2099, 2100, 2088, 2087, 2082, 2084, 2083, 2089, 1050, 2081, 2085, 2086, 2090, 1072, 1073, 1074, 2101, 2102, 1078, 1079] G G' ∧ (G'.1 2090 (Γ.2.1 w 60) (0 : Int).toNat = G.1 2090 (Γ.2.1 w 60) (0 : Int).toNat)))) args s 0 0 (zA Γ)) 7 [some (zr 10 w), some (zi c0), some (zi x2), none, none, none] [] G1 := by
    intro nn
    induction nn with
    | zero => intro x2 G1 h7_0 h7_1 h7_2 hm; exact absurd hm (Nat.not_lt_zero _)
    | succ nn ih7 =>
      intro x2 G1 h7_0 h7_1 h7_2 hm7
      refine zs_iload_n (pc := 7) C dX9_layPlan_7 rfl ?_
      refine zs_iconst (pc := 8) C dX9_layPlan_8 (by decide) ?_
      refine zs_icmp_ge (tgt := 162) (pc := 9) C dX9_layPlan_9 (by decide) (fun h9 => ?_) (fun h9 => ?_)
      · skip
        exact zs_vret (pc := 162) C hr hlk dX9_layPlan_162 ⟨by repeat (first | exact zsm_rf | assumption | refine zsm_C (by decide) ?_ | refine zsm_I (by decide) ?_ | refine zsm_J ?_ | refine zsm_c (by assumption) (by decide) ?_), (by first | omega | rfl | (simp only [zuI_1, zuI_2, zuJ_1, zuJ_2, zuJ_3, zuP_1, zuP_2, zuP_3, zuC_1, zuC_2, reduceIte, Nat.reduceEqDiff, false_and, and_false, true_and, and_true, and_self, or_true, true_or, or_false, false_or]; done) | (simp only [zuI_1, zuI_2, zuJ_1, zuJ_2, zuJ_3, zuP_1, zuP_2, zuP_3, zuC_1, zuC_2, reduceIte, Nat.reduceEqDiff, false_and, and_false, true_and, and_true, and_self, or_true, true_or, or_false, false_or]; omega))⟩
      · skip
        refine zs_aload_n (pc := 12) C dX9_layPlan_12 rfl ?_
        refine zs_geti (r := 1078) (pc := 13) C dX9_layPlan_13 w_X9_501 f_10_78 rfl (r_1078 0) (fun v13 e13 l13 u13 => ?_)
        refine zs_if_eq (tgt := 162) (pc := 16) C dX9_layPlan_16 (by decide) (fun h16 => ?_) (fun h16 => ?_)
        · skip
          exact zs_vret (pc := 162) C hr hlk dX9_layPlan_162 ⟨by repeat (first | exact zsm_rf | assumption | refine zsm_C (by decide) ?_ | refine zsm_I (by decide) ?_ | refine zsm_J ?_ | refine zsm_c (by assumption) (by decide) ?_), (by first | omega | rfl | (simp only [zuI_1, zuI_2, zuJ_1, zuJ_2, zuJ_3, zuP_1, zuP_2, zuP_3, zuC_1, zuC_2, reduceIte, Nat.reduceEqDiff, false_and, and_false, true_and, and_true, and_self, or_true, true_or, or_false, false_or]; done) | (simp only [zuI_1, zuI_2, zuJ_1, zuJ_2, zuJ_3, zuP_1, zuP_2, zuP_3, zuC_1, zuC_2, reduceIte, Nat.reduceEqDiff, false_and, and_false, true_and, and_true, and_self, or_true, true_or, or_false, false_or]; omega))⟩
        · skip
          refine zs_iload_n (pc := 19) C dX9_layPlan_19 rfl ?_
          refine zs_if_eq (tgt := 37) (pc := 20) C dX9_layPlan_20 (by decide) (fun h20 => ?_) (fun h20 => ?_)
          · skip
            refine zs_iconst (pc := 37) C dX9_layPlan_37 (by decide) ?_
            refine zs_istore_n (pc := 38) C dX9_layPlan_38 (by decide) ?_
            dsimp only [zset, zclr, znone]
            have L39 : ∀ (nn : Nat) (x3 : Int) (G2 : zH), (0 ≤ x3 ∧ x3 ≤ 4) → (zsm [2091, 2092, 2093, 2094, 2095, 2096, 2097, 2098, 2099, 2100, 2088, 2087, 2082, 2084, 2083, 2089, 1050, 2081, 2085, 2086, 2090, 1072, 1073, 1074, 2101, 2102, 1078, 1079] G G2) → (∀ i : Nat, (i : Int) < x3 → G2.1 2101 (Γ.2.1 w 76) i ≤ 19) → (G2.1 2090 (Γ.2.1 w 60) (0 : Int).toNat = G.1 2090 (Γ.2.1 w 60) (0 : Int).toNat) → (4 - x3).toNat < nn → Z p l e (zrm 7) s m args below meth c Γ 6 0 0 (MQ below (zQc Γ (zpv (fun G' => zsm [2091, 2092, 2093, 2094, 2095, 2096, 2097, 2098, 2099, 2100, 2088, 2087, 2082, 2084, 2083, 2089, 1050, 2081, 2085, 2086, 2090, 1072, 1073, 1074, 2101, 2102, 1078, 1079] G G' ∧ (G'.1 2090 (Γ.2.1 w 60) (0 : Int).toNat = G.1 2090 (Γ.2.1 w 60) (0 : Int).toNat)))) args s 0 0 (zA Γ)) 39 [some (zr 10 w), some (zi c0), some (zi x2), some (zi x3), none, none] [] G2 := by
              intro nn
              induction nn with
              | zero => intro x3 G2 h39_0 h39_1 h39_2 h39_3 hm; exact absurd hm (Nat.not_lt_zero _)
              | succ nn ih39 =>
                intro x3 G2 h39_0 h39_1 h39_2 h39_3 hm39
                refine zs_iload_n (pc := 39) C dX9_layPlan_39 rfl ?_
                refine zs_iconst (pc := 40) C dX9_layPlan_40 (by decide) ?_
                refine zs_icmp_ge (tgt := 57) (pc := 41) C dX9_layPlan_41 (by decide) (fun h41 => ?_) (fun h41 => ?_)
                · skip
                  refine zs_iconst (pc := 57) C dX9_layPlan_57 (by decide) ?_
                  refine zs_istore_n (pc := 58) C dX9_layPlan_58 (by decide) ?_
                  dsimp only [zset, zclr, znone]
                  have L59 : ∀ (nn : Nat) (x3 : Int) (G3 : zH), (x3 = 0 ∨ x3 = 1) → (∀ i : Nat, i < 4 → G3.1 2101 (Γ.2.1 w 76) i ≤ 19) → (zsm [2091, 2092, 2093, 2094, 2095, 2096, 2097, 2098, 2099, 2100, 2088, 2087, 2082, 2084, 2083, 2089, 1050, 2081, 2085, 2086, 2090, 1072, 1073, 1074, 2101, 2102, 1078, 1079] G G3) → (G3.1 2090 (Γ.2.1 w 60) (0 : Int).toNat = G.1 2090 (Γ.2.1 w 60) (0 : Int).toNat) → lpm x3 (zod 25 (G3.1 2101 (Γ.2.1 w 76)) 4) < nn → Z p l e (zrm 7) s m args below meth c Γ 6 0 0 (MQ below (zQc Γ (zpv (fun G' => zsm [2091, 2092, 2093, 2094, 2095, 2096, 2097, 2098, 2099, 2100, 2088, 2087, 2082, 2084, 2083, 2089, 1050, 2081, 2085, 2086, 2090, 1072, 1073, 1074, 2101, 2102, 1078, 1079] G G' ∧ (G'.1 2090 (Γ.2.1 w 60) (0 : Int).toNat = G.1 2090 (Γ.2.1 w 60) (0 : Int).toNat)))) args s 0 0 (zA Γ)) 59 [some (zr 10 w), some (zi c0), some (zi x2), some (zi x3), none, none] [] G3 := by
                    intro nn
                    induction nn with
                    | zero => intro x3 G3 h59_0 h59_1 h59_2 h59_3 hm; exact absurd hm (Nat.not_lt_zero _)
                    | succ nn ih59 =>
                      intro x3 G3 h59_0 h59_1 h59_2 h59_3 hm59
                      refine zs_iload_n (pc := 59) C dX9_layPlan_59 rfl ?_
                      refine zs_if_eq (tgt := 156) (pc := 60) C dX9_layPlan_60 (by decide) (fun h60 => ?_) (fun h60 => ?_)
                      · skip
                        first | refine zs_iinc (pc := 156) C dX9_layPlan_156 rfl (by decide) (by omega) ?_ | refine zs_iincF (pc := 156) C dX9_layPlan_156 rfl (by decide) (fun z156 hz1561 hz1562 => ?_)
                        dsimp only [zset, zclr, znone]
                        refine zs_goto (tgt := 7) (pc := 159) C dX9_layPlan_159 (by decide) ?_
                        exact zs_wk (ih7 _ _ (by first | omega | (simp only [zuI_1, zuI_2, zuJ_1, zuJ_2, zuJ_3, zuP_1, zuP_2, zuP_3, zuC_1, zuC_2, reduceIte, Nat.reduceEqDiff, false_and, and_false, true_and, and_true, and_self, or_true, true_or, or_false, false_or]; omega)) (by repeat (first | exact zsm_rf | assumption | refine zsm_C (by decide) ?_ | refine zsm_I (by decide) ?_ | refine zsm_J ?_ | refine zsm_c (by assumption) (by decide) ?_)) (by first | omega | rfl | (simp only [zuI_1, zuI_2, zuJ_1, zuJ_2, zuJ_3, zuP_1, zuP_2, zuP_3, zuC_1, zuC_2, reduceIte, Nat.reduceEqDiff, false_and, and_false, true_and, and_true, and_self, or_true, true_or, or_false, false_or]; done) | (simp only [zuI_1, zuI_2, zuJ_1, zuJ_2, zuJ_3, zuP_1, zuP_2, zuP_3, zuC_1, zuC_2, reduceIte, Nat.reduceEqDiff, false_and, and_false, true_and, and_true, and_self, or_true, true_or, or_false, false_or]; omega)) (by first | omega | (simp only [zuI_1, zuI_2, zuJ_1, zuJ_2, zuJ_3, zuP_1, zuP_2, zuP_3, zuC_1, zuC_2, reduceIte, Nat.reduceEqDiff, false_and, and_false, true_and, and_true, and_self, or_true, true_or, or_false, false_or]; omega))) (zwk_s rfl (zwk_s rfl (zwk_s rfl (zwk_n (zwk_n (zwk_n zwk_0))))))
                      · skip
                        refine zs_aload_n (pc := 63) C dX9_layPlan_63 rfl ?_
                        refine zs_iload_n (pc := 64) C dX9_layPlan_64 rfl ?_
                        refine zs_iload_n (pc := 65) C dX9_layPlan_65 rfl ?_
                        refine zVi2 (pc := 66) C dX9_layPlan_66 v_X9_504 (c_X9_fallsByE hX (by repeat (first | assumption | refine MI_I (by decide) ?_ | refine MI_J ?_ | refine MI_sm (by assumption) (by decide) ?_ | refine MI_sn (by assumption) (by decide) ?_)) (by omega) (by omega) (by omega)) (by decide) (by decide) ⟨Nat.zero_le _, Nat.zero_le _⟩ (Nat.le_of_ble_eq_true rfl) (fun x66 G66 l66 u66 hp66 => ?_)
                        obtain ⟨hz66, hq66⟩ := hp66
                        refine zs_istore (pc := 69) C dX9_layPlan_69 (by decide) ?_
                        dsimp only [zset, zclr, znone]
                        have J132 : ∀ (G5 : zH), (zsm [2091, 2092, 2093, 2094, 2095, 2096, 2097, 2098, 2099, 2100, 2088, 2087, 2082, 2084, 2083, 2089, 1050, 2081, 2085, 2086, 2090, 1072, 1073, 1074, 2101, 2102, 1078, 1079] G G5) → (G5.1 2101 = G3.1 2101) → (G5.1 2090 (Γ.2.1 w 60) (0 : Int).toNat = G.1 2090 (Γ.2.1 w 60) (0 : Int).toNat) → Z p l e (zrm 7) s m args below meth c Γ 6 0 0 (MQ below (zQc Γ (zpv (fun G' => zsm [2091, 2092, 2093, 2094, 2095, 2096, 2097, 2098, 2099, 2100, 2088, 2087, 2082, 2084, 2083, 2089, 1050, 2081, 2085, 2086, 2090, 1072, 1073, 1074, 2101, 2102, 1078, 1079] G G' ∧ (G'.1 2090 (Γ.2.1 w 60) (0 : Int).toNat = G.1 2090 (Γ.2.1 w 60) (0 : Int).toNat)))) args s 0 0 (zA Γ)) 132 [some (zr 10 w), some (zi c0), some (zi x2), some (zi x3), none, none] [] G5 := by
                          intro G5 h132_0 h132_1 h132_2
                          have hr5 : ∀ i : Nat, i < 4 → G5.1 2101 (Γ.2.1 w 76) i ≤ 19 := fun i hi => by rw [h132_1]; exact h59_1 i hi
                          refine zs_good (fun hGd5 => ?_)
                          have hzb := zod4_b (row24 hGd5 (Γ.2.1 w 76))
                          rw [h132_1] at hzb
                          refine zs_aload_n (pc := 132) C dX9_layPlan_132 rfl ?_
                          refine zs_geti (r := 1078) (pc := 133) C dX9_layPlan_133 w_X9_501 f_10_78 rfl (r_1078 0) (fun v133 e133 l133 u133 => ?_)
                          refine zs_if_eq (tgt := 151) (pc := 136) C dX9_layPlan_136 (by decide) (fun h136 => ?_) (fun h136 => ?_)
                          · skip
                            refine zs_iconst (pc := 151) C dX9_layPlan_151 (by decide) ?_
                            refine zs_istore_n (pc := 152) C dX9_layPlan_152 (by decide) ?_
                            dsimp only [zset, zclr, znone]
                            refine zs_goto (tgt := 59) (pc := 153) C dX9_layPlan_153 (by decide) ?_
                            exact zs_wk (ih59 _ _ (by omega) (by first | exact hq141.2.1 | exact hr5) (by repeat (first | exact zsm_rf | assumption | refine zsm_C (by decide) ?_ | refine zsm_I (by decide) ?_ | refine zsm_J ?_ | refine zsm_c (by assumption) (by decide) ?_)) (by first | omega | rfl | (simp only [zuI_1, zuI_2, zuJ_1, zuJ_2, zuJ_3, zuP_1, zuP_2, zuP_3, zuC_1, zuC_2, reduceIte, Nat.reduceEqDiff, false_and, and_false, true_and, and_true, and_self, or_true, true_or, or_false, false_or]; done) | (simp only [zuI_1, zuI_2, zuJ_1, zuJ_2, zuJ_3, zuP_1, zuP_2, zuP_3, zuC_1, zuC_2, reduceIte, Nat.reduceEqDiff, false_and, and_false, true_and, and_true, and_self, or_true, true_or, or_false, false_or]; omega)) (by first | exact lpm_s0 hm59 h60 hzb | exact lpm_s1 hm59 h60 (hq5 (by omega)) hzb6)) (zwk_s rfl (zwk_s rfl (zwk_s rfl (zwk_s rfl (zwk_n (zwk_n zwk_0))))))
                          · skip
                            refine zs_aload_n (pc := 139) C dX9_layPlan_139 rfl ?_
                            refine zs_iload_n (pc := 140) C dX9_layPlan_140 rfl ?_
                            refine zVi1 (pc := 141) C dX9_layPlan_141 v_X9_510 (c_X9_nextRow hX (by omega) (by omega)) (by decide) (by decide) ⟨Nat.zero_le _, Nat.zero_le _⟩ (Nat.le_of_ble_eq_true rfl) (fun x141 G141 l141 u141 hp141 => ?_)
                            obtain ⟨hz141, hq141⟩ := hp141
                            have tr141_2090 := zsm_at hz141 2090 (Γ.2.1 w 60) (0 : Int).toNat (by decide)
                            try simp only [zuI_1, zuI_2, zuJ_1, zuJ_2, zuJ_3, zuP_1, zuP_2, zuP_3, zuC_1, zuC_2, reduceIte, Nat.reduceEqDiff, false_and, and_false, true_and, and_true, and_self, or_true, true_or, or_false, false_or] at tr141_2090
                            have hq5 := hq141.2.2
                            rw [h132_1] at hq5
                            refine zs_good (fun hGd6 => ?_)
                            have hzb6 := zod4_b (row24 hGd6 (Γ.2.1 w 76))
                            refine zs_if_eq (tgt := 151) (pc := 144) C dX9_layPlan_144 (by decide) (fun h144 => ?_) (fun h144 => ?_)
                            · skip
                              refine zs_iconst (pc := 151) C dX9_layPlan_151 (by decide) ?_
                              refine zs_istore_n (pc := 152) C dX9_layPlan_152 (by decide) ?_
                              dsimp only [zset, zclr, znone]
                              refine zs_goto (tgt := 59) (pc := 153) C dX9_layPlan_153 (by decide) ?_
                              exact zs_wk (ih59 _ _ (by omega) (by first | exact hq141.2.1 | exact hr5) (by repeat (first | exact zsm_rf | assumption | refine zsm_C (by decide) ?_ | refine zsm_I (by decide) ?_ | refine zsm_J ?_ | refine zsm_c (by assumption) (by decide) ?_)) (by first | omega | rfl | (simp only [zuI_1, zuI_2, zuJ_1, zuJ_2, zuJ_3, zuP_1, zuP_2, zuP_3, zuC_1, zuC_2, reduceIte, Nat.reduceEqDiff, false_and, and_false, true_and, and_true, and_self, or_true, true_or, or_false, false_or]; done) | (simp only [zuI_1, zuI_2, zuJ_1, zuJ_2, zuJ_3, zuP_1, zuP_2, zuP_3, zuC_1, zuC_2, reduceIte, Nat.reduceEqDiff, false_and, and_false, true_and, and_true, and_self, or_true, true_or, or_false, false_or]; omega)) (by first | exact lpm_s0 hm59 h60 hzb | exact lpm_s1 hm59 h60 (hq5 (by omega)) hzb6)) (zwk_s rfl (zwk_s rfl (zwk_s rfl (zwk_s rfl (zwk_n (zwk_n zwk_0))))))
                            · skip
                              refine zs_iconst (pc := 147) C dX9_layPlan_147 (by decide) ?_
                              refine zs_goto (tgt := 152) (pc := 148) C dX9_layPlan_148 (by decide) ?_
                              refine zs_istore_n (pc := 152) C dX9_layPlan_152 (by decide) ?_
                              dsimp only [zset, zclr, znone]
                              refine zs_goto (tgt := 59) (pc := 153) C dX9_layPlan_153 (by decide) ?_
                              exact zs_wk (ih59 _ _ (by omega) (by first | exact hq141.2.1 | exact hr5) (by repeat (first | exact zsm_rf | assumption | refine zsm_C (by decide) ?_ | refine zsm_I (by decide) ?_ | refine zsm_J ?_ | refine zsm_c (by assumption) (by decide) ?_)) (by first | omega | rfl | (simp only [zuI_1, zuI_2, zuJ_1, zuJ_2, zuJ_3, zuP_1, zuP_2, zuP_3, zuC_1, zuC_2, reduceIte, Nat.reduceEqDiff, false_and, and_false, true_and, and_true, and_self, or_true, true_or, or_false, false_or]; done) | (simp only [zuI_1, zuI_2, zuJ_1, zuJ_2, zuJ_3, zuP_1, zuP_2, zuP_3, zuC_1, zuC_2, reduceIte, Nat.reduceEqDiff, false_and, and_false, true_and, and_true, and_self, or_true, true_or, or_false, false_or]; omega)) (by first | exact lpm_s0 hm59 h60 hzb | exact lpm_s1 hm59 h60 (hq5 (by omega)) hzb6)) (zwk_s rfl (zwk_s rfl (zwk_s rfl (zwk_s rfl (zwk_n (zwk_n zwk_0))))))
                        refine zs_iload (pc := 71) C dX9_layPlan_71 rfl ?_
                        refine zs_if_lt (tgt := 132) (pc := 73) C dX9_layPlan_73 (by decide) (fun h73 => ?_) (fun h73 => ?_)
                        · skip
                          exact zs_wk (J132 _ (by repeat (first | exact zsm_rf | assumption | refine zsm_C (by decide) ?_ | refine zsm_I (by decide) ?_ | refine zsm_J ?_ | refine zsm_c (by assumption) (by decide) ?_)) (by first | exact hz66.1 2101 (by decide) | exact (h106_2.1 2101 (by decide)).trans (hz66.1 2101 (by decide))) (by first | omega | rfl | (simp only [zuI_1, zuI_2, zuJ_1, zuJ_2, zuJ_3, zuP_1, zuP_2, zuP_3, zuC_1, zuC_2, reduceIte, Nat.reduceEqDiff, false_and, and_false, true_and, and_true, and_self, or_true, true_or, or_false, false_or]; done) | (simp only [zuI_1, zuI_2, zuJ_1, zuJ_2, zuJ_3, zuP_1, zuP_2, zuP_3, zuC_1, zuC_2, reduceIte, Nat.reduceEqDiff, false_and, and_false, true_and, and_true, and_self, or_true, true_or, or_false, false_or]; omega))) (zwk_s rfl (zwk_s rfl (zwk_s rfl (zwk_s rfl (zwk_n (zwk_n zwk_0))))))
                        · skip
                          refine zs_aload_n (pc := 76) C dX9_layPlan_76 rfl ?_
                          refine zs_geti (r := 1078) (pc := 77) C dX9_layPlan_77 w_X9_501 f_10_78 rfl (r_1078 0) (fun v77 e77 l77 u77 => ?_)
                          refine zs_if_lt (tgt := 92) (pc := 80) C dX9_layPlan_80 (by decide) (fun h80 => ?_) (fun h80 => ?_)
                          · skip
                            refine zs_aload_n (pc := 92) C dX9_layPlan_92 rfl ?_
                            refine zs_iload (pc := 93) C dX9_layPlan_93 rfl ?_
                            refine zs_puti (r := 1078) (pc := 95) C dX9_layPlan_95 w_X9_501 f_10_78 rfl (r_1078 0) (by omega) ?_
                            refine zs_aload_n (pc := 98) C dX9_layPlan_98 rfl ?_
                            refine zs_iload_n (pc := 99) C dX9_layPlan_99 rfl ?_
                            refine zs_puti (r := 1079) (pc := 100) C dX9_layPlan_100 w_X9_507 f_10_79 rfl (r_1079 0) (by omega) ?_
                            refine zs_iconst (pc := 103) C dX9_layPlan_103 (by decide) ?_
                            refine zs_istore (pc := 104) C dX9_layPlan_104 (by decide) ?_
                            dsimp only [zset, zclr, znone]
                            have L106 : ∀ (nn : Nat) (x5 : Int) (G6 : zH), (0 ≤ x5 ∧ x5 ≤ 4) → (zsm [2091, 2092, 2093, 2094, 2095, 2096, 2097, 2098, 2099, 2100, 2088, 2087, 2082, 2084, 2083, 2089, 1050, 2081, 2085, 2086, 2090, 1072, 1073, 1074, 2101, 2102, 1078, 1079] G G6) → (zsm [2102, 1078, 1079] G66 G6) → (G6.1 2090 (Γ.2.1 w 60) (0 : Int).toNat = G.1 2090 (Γ.2.1 w 60) (0 : Int).toNat) → (4 - x5).toNat < nn → Z p l e (zrm 7) s m args below meth c Γ 6 0 0 (MQ below (zQc Γ (zpv (fun G' => zsm [2091, 2092, 2093, 2094, 2095, 2096, 2097, 2098, 2099, 2100, 2088, 2087, 2082, 2084, 2083, 2089, 1050, 2081, 2085, 2086, 2090, 1072, 1073, 1074, 2101, 2102, 1078, 1079] G G' ∧ (G'.1 2090 (Γ.2.1 w 60) (0 : Int).toNat = G.1 2090 (Γ.2.1 w 60) (0 : Int).toNat)))) args s 0 0 (zA Γ)) 106 [some (zr 10 w), some (zi c0), some (zi x2), some (zi x3), none, some (zi x5)] [] G6 := by
                              intro nn
                              induction nn with
                              | zero => intro x5 G6 h106_0 h106_1 h106_2 h106_3 hm; exact absurd hm (Nat.not_lt_zero _)
                              | succ nn ih106 =>
                                intro x5 G6 h106_0 h106_1 h106_2 h106_3 hm106
                                refine zs_iload (pc := 106) C dX9_layPlan_106 rfl ?_
                                refine zs_iconst (pc := 108) C dX9_layPlan_108 (by decide) ?_
                                refine zs_icmp_ge (tgt := 132) (pc := 109) C dX9_layPlan_109 (by decide) (fun h109 => ?_) (fun h109 => ?_)
                                · skip
                                  exact zs_wk (J132 _ (by repeat (first | exact zsm_rf | assumption | refine zsm_C (by decide) ?_ | refine zsm_I (by decide) ?_ | refine zsm_J ?_ | refine zsm_c (by assumption) (by decide) ?_)) (by first | exact hz66.1 2101 (by decide) | exact (h106_2.1 2101 (by decide)).trans (hz66.1 2101 (by decide))) (by first | omega | rfl | (simp only [zuI_1, zuI_2, zuJ_1, zuJ_2, zuJ_3, zuP_1, zuP_2, zuP_3, zuC_1, zuC_2, reduceIte, Nat.reduceEqDiff, false_and, and_false, true_and, and_true, and_self, or_true, true_or, or_false, false_or]; done) | (simp only [zuI_1, zuI_2, zuJ_1, zuJ_2, zuJ_3, zuP_1, zuP_2, zuP_3, zuC_1, zuC_2, reduceIte, Nat.reduceEqDiff, false_and, and_false, true_and, and_true, and_self, or_true, true_or, or_false, false_or]; omega))) (zwk_s rfl (zwk_s rfl (zwk_s rfl (zwk_s rfl (zwk_n (zwk_n zwk_0))))))
                                · skip
                                  refine zs_aload_n (pc := 112) C dX9_layPlan_112 rfl ?_
                                  refine zs_getf (pc := 113) C dX9_layPlan_113 w_X9_154 f_10_77 (by decide) ?_
                                  refine zs_iload (pc := 116) C dX9_layPlan_116 rfl ?_
                                  refine zs_aload_n (pc := 118) C dX9_layPlan_118 rfl ?_
                                  refine zs_getf (pc := 119) C dX9_layPlan_119 w_X9_151 f_10_76 (by decide) ?_
                                  refine zs_iload (pc := 122) C dX9_layPlan_122 rfl ?_
                                  refine zs_iald (r := 2101) (pc := 124) C dX9_layPlan_124 a_101 (by decide) (by omega) rfl (r_2101 _) (fun v124 e124 l124 u124 => ?_)
                                  refine zs_iast (r := 2102) (pc := 125) C dX9_layPlan_125 a_102 (by decide) (by omega) rfl (r_2102 _) (by omega) ?_
                                  first | refine zs_iinc (pc := 126) C dX9_layPlan_126 rfl (by decide) (by omega) ?_ | refine zs_iincF (pc := 126) C dX9_layPlan_126 rfl (by decide) (fun z126 hz1261 hz1262 => ?_)
                                  dsimp only [zset, zclr, znone]
                                  refine zs_goto (tgt := 106) (pc := 129) C dX9_layPlan_129 (by decide) ?_
                                  exact zs_wk (ih106 _ _ (by first | omega | (simp only [zuI_1, zuI_2, zuJ_1, zuJ_2, zuJ_3, zuP_1, zuP_2, zuP_3, zuC_1, zuC_2, reduceIte, Nat.reduceEqDiff, false_and, and_false, true_and, and_true, and_self, or_true, true_or, or_false, false_or]; omega)) (by repeat (first | exact zsm_rf | assumption | refine zsm_C (by decide) ?_ | refine zsm_I (by decide) ?_ | refine zsm_J ?_ | refine zsm_c (by assumption) (by decide) ?_)) (by repeat (first | exact zsm_rf | assumption | refine zsm_C (by decide) ?_ | refine zsm_I (by decide) ?_ | refine zsm_J ?_ | refine zsm_c (by assumption) (by decide) ?_)) (by first | omega | rfl | (simp only [zuI_1, zuI_2, zuJ_1, zuJ_2, zuJ_3, zuP_1, zuP_2, zuP_3, zuC_1, zuC_2, reduceIte, Nat.reduceEqDiff, false_and, and_false, true_and, and_true, and_self, or_true, true_or, or_false, false_or]; done) | (simp only [zuI_1, zuI_2, zuJ_1, zuJ_2, zuJ_3, zuP_1, zuP_2, zuP_3, zuC_1, zuC_2, reduceIte, Nat.reduceEqDiff, false_and, and_false, true_and, and_true, and_self, or_true, true_or, or_false, false_or]; omega)) (by first | omega | (simp only [zuI_1, zuI_2, zuJ_1, zuJ_2, zuJ_3, zuP_1, zuP_2, zuP_3, zuC_1, zuC_2, reduceIte, Nat.reduceEqDiff, false_and, and_false, true_and, and_true, and_self, or_true, true_or, or_false, false_or]; omega))) (zwk_s rfl (zwk_s rfl (zwk_s rfl (zwk_s rfl (zwk_n (zwk_s rfl zwk_0))))))
                            exact zs_wk (L106 _ _ _ (by first | omega | (simp only [zuI_1, zuI_2, zuJ_1, zuJ_2, zuJ_3, zuP_1, zuP_2, zuP_3, zuC_1, zuC_2, reduceIte, Nat.reduceEqDiff, false_and, and_false, true_and, and_true, and_self, or_true, true_or, or_false, false_or]; omega)) (by repeat (first | exact zsm_rf | assumption | refine zsm_C (by decide) ?_ | refine zsm_I (by decide) ?_ | refine zsm_J ?_ | refine zsm_c (by assumption) (by decide) ?_)) (by repeat (first | exact zsm_rf | assumption | refine zsm_C (by decide) ?_ | refine zsm_I (by decide) ?_ | refine zsm_J ?_ | refine zsm_c (by assumption) (by decide) ?_)) (by first | omega | rfl | (simp only [zuI_1, zuI_2, zuJ_1, zuJ_2, zuJ_3, zuP_1, zuP_2, zuP_3, zuC_1, zuC_2, reduceIte, Nat.reduceEqDiff, false_and, and_false, true_and, and_true, and_self, or_true, true_or, or_false, false_or]; done) | (simp only [zuI_1, zuI_2, zuJ_1, zuJ_2, zuJ_3, zuP_1, zuP_2, zuP_3, zuC_1, zuC_2, reduceIte, Nat.reduceEqDiff, false_and, and_false, true_and, and_true, and_self, or_true, true_or, or_false, false_or]; omega)) (Nat.lt_succ_self _)) (zwk_s rfl (zwk_s rfl (zwk_s rfl (zwk_s rfl (zwk_n (zwk_s rfl zwk_0))))))
                          · skip
                            refine zs_iload (pc := 83) C dX9_layPlan_83 rfl ?_
                            refine zs_aload_n (pc := 85) C dX9_layPlan_85 rfl ?_
                            refine zs_geti (r := 1078) (pc := 86) C dX9_layPlan_86 w_X9_501 f_10_78 rfl (r_1078 0) (fun v86 e86 l86 u86 => ?_)
                            refine zs_icmp_ge (tgt := 132) (pc := 89) C dX9_layPlan_89 (by decide) (fun h89 => ?_) (fun h89 => ?_)
                            · skip
                              exact zs_wk (J132 _ (by repeat (first | exact zsm_rf | assumption | refine zsm_C (by decide) ?_ | refine zsm_I (by decide) ?_ | refine zsm_J ?_ | refine zsm_c (by assumption) (by decide) ?_)) (by first | exact hz66.1 2101 (by decide) | exact (h106_2.1 2101 (by decide)).trans (hz66.1 2101 (by decide))) (by first | omega | rfl | (simp only [zuI_1, zuI_2, zuJ_1, zuJ_2, zuJ_3, zuP_1, zuP_2, zuP_3, zuC_1, zuC_2, reduceIte, Nat.reduceEqDiff, false_and, and_false, true_and, and_true, and_self, or_true, true_or, or_false, false_or]; done) | (simp only [zuI_1, zuI_2, zuJ_1, zuJ_2, zuJ_3, zuP_1, zuP_2, zuP_3, zuC_1, zuC_2, reduceIte, Nat.reduceEqDiff, false_and, and_false, true_and, and_true, and_self, or_true, true_or, or_false, false_or]; omega))) (zwk_s rfl (zwk_s rfl (zwk_s rfl (zwk_s rfl (zwk_n (zwk_n zwk_0))))))
                            · skip
                              refine zs_aload_n (pc := 92) C dX9_layPlan_92 rfl ?_
                              refine zs_iload (pc := 93) C dX9_layPlan_93 rfl ?_
                              refine zs_puti (r := 1078) (pc := 95) C dX9_layPlan_95 w_X9_501 f_10_78 rfl (r_1078 0) (by omega) ?_
                              refine zs_aload_n (pc := 98) C dX9_layPlan_98 rfl ?_
                              refine zs_iload_n (pc := 99) C dX9_layPlan_99 rfl ?_
                              refine zs_puti (r := 1079) (pc := 100) C dX9_layPlan_100 w_X9_507 f_10_79 rfl (r_1079 0) (by omega) ?_
                              refine zs_iconst (pc := 103) C dX9_layPlan_103 (by decide) ?_
                              refine zs_istore (pc := 104) C dX9_layPlan_104 (by decide) ?_
                              dsimp only [zset, zclr, znone]
                              have L106 : ∀ (nn : Nat) (x5 : Int) (G6 : zH), (0 ≤ x5 ∧ x5 ≤ 4) → (zsm [2091, 2092, 2093, 2094, 2095, 2096, 2097, 2098, 2099, 2100, 2088, 2087, 2082, 2084, 2083, 2089, 1050, 2081, 2085, 2086, 2090, 1072, 1073, 1074, 2101, 2102, 1078, 1079] G G6) → (zsm [2102, 1078, 1079] G66 G6) → (G6.1 2090 (Γ.2.1 w 60) (0 : Int).toNat = G.1 2090 (Γ.2.1 w 60) (0 : Int).toNat) → (4 - x5).toNat < nn → Z p l e (zrm 7) s m args below meth c Γ 6 0 0 (MQ below (zQc Γ (zpv (fun G' => zsm [2091, 2092, 2093, 2094, 2095, 2096, 2097, 2098, 2099, 2100, 2088, 2087, 2082, 2084, 2083, 2089, 1050, 2081, 2085, 2086, 2090, 1072, 1073, 1074, 2101, 2102, 1078, 1079] G G' ∧ (G'.1 2090 (Γ.2.1 w 60) (0 : Int).toNat = G.1 2090 (Γ.2.1 w 60) (0 : Int).toNat)))) args s 0 0 (zA Γ)) 106 [some (zr 10 w), some (zi c0), some (zi x2), some (zi x3), none, some (zi x5)] [] G6 := by
                                intro nn
                                induction nn with
                                | zero => intro x5 G6 h106_0 h106_1 h106_2 h106_3 hm; exact absurd hm (Nat.not_lt_zero _)
                                | succ nn ih106 =>
                                  intro x5 G6 h106_0 h106_1 h106_2 h106_3 hm106
                                  refine zs_iload (pc := 106) C dX9_layPlan_106 rfl ?_
                                  refine zs_iconst (pc := 108) C dX9_layPlan_108 (by decide) ?_
                                  refine zs_icmp_ge (tgt := 132) (pc := 109) C dX9_layPlan_109 (by decide) (fun h109 => ?_) (fun h109 => ?_)
                                  · skip
                                    exact zs_wk (J132 _ (by repeat (first | exact zsm_rf | assumption | refine zsm_C (by decide) ?_ | refine zsm_I (by decide) ?_ | refine zsm_J ?_ | refine zsm_c (by assumption) (by decide) ?_)) (by first | exact hz66.1 2101 (by decide) | exact (h106_2.1 2101 (by decide)).trans (hz66.1 2101 (by decide))) (by first | omega | rfl | (simp only [zuI_1, zuI_2, zuJ_1, zuJ_2, zuJ_3, zuP_1, zuP_2, zuP_3, zuC_1, zuC_2, reduceIte, Nat.reduceEqDiff, false_and, and_false, true_and, and_true, and_self, or_true, true_or, or_false, false_or]; done) | (simp only [zuI_1, zuI_2, zuJ_1, zuJ_2, zuJ_3, zuP_1, zuP_2, zuP_3, zuC_1, zuC_2, reduceIte, Nat.reduceEqDiff, false_and, and_false, true_and, and_true, and_self, or_true, true_or, or_false, false_or]; omega))) (zwk_s rfl (zwk_s rfl (zwk_s rfl (zwk_s rfl (zwk_n (zwk_n zwk_0))))))
                                  · skip
                                    refine zs_aload_n (pc := 112) C dX9_layPlan_112 rfl ?_
                                    refine zs_getf (pc := 113) C dX9_layPlan_113 w_X9_154 f_10_77 (by decide) ?_
                                    refine zs_iload (pc := 116) C dX9_layPlan_116 rfl ?_
                                    refine zs_aload_n (pc := 118) C dX9_layPlan_118 rfl ?_
                                    refine zs_getf (pc := 119) C dX9_layPlan_119 w_X9_151 f_10_76 (by decide) ?_
                                    refine zs_iload (pc := 122) C dX9_layPlan_122 rfl ?_
                                    refine zs_iald (r := 2101) (pc := 124) C dX9_layPlan_124 a_101 (by decide) (by omega) rfl (r_2101 _) (fun v124 e124 l124 u124 => ?_)
                                    refine zs_iast (r := 2102) (pc := 125) C dX9_layPlan_125 a_102 (by decide) (by omega) rfl (r_2102 _) (by omega) ?_
                                    first | refine zs_iinc (pc := 126) C dX9_layPlan_126 rfl (by decide) (by omega) ?_ | refine zs_iincF (pc := 126) C dX9_layPlan_126 rfl (by decide) (fun z126 hz1261 hz1262 => ?_)
                                    dsimp only [zset, zclr, znone]
                                    refine zs_goto (tgt := 106) (pc := 129) C dX9_layPlan_129 (by decide) ?_
                                    exact zs_wk (ih106 _ _ (by first | omega | (simp only [zuI_1, zuI_2, zuJ_1, zuJ_2, zuJ_3, zuP_1, zuP_2, zuP_3, zuC_1, zuC_2, reduceIte, Nat.reduceEqDiff, false_and, and_false, true_and, and_true, and_self, or_true, true_or, or_false, false_or]; omega)) (by repeat (first | exact zsm_rf | assumption | refine zsm_C (by decide) ?_ | refine zsm_I (by decide) ?_ | refine zsm_J ?_ | refine zsm_c (by assumption) (by decide) ?_)) (by repeat (first | exact zsm_rf | assumption | refine zsm_C (by decide) ?_ | refine zsm_I (by decide) ?_ | refine zsm_J ?_ | refine zsm_c (by assumption) (by decide) ?_)) (by first | omega | rfl | (simp only [zuI_1, zuI_2, zuJ_1, zuJ_2, zuJ_3, zuP_1, zuP_2, zuP_3, zuC_1, zuC_2, reduceIte, Nat.reduceEqDiff, false_and, and_false, true_and, and_true, and_self, or_true, true_or, or_false, false_or]; done) | (simp only [zuI_1, zuI_2, zuJ_1, zuJ_2, zuJ_3, zuP_1, zuP_2, zuP_3, zuC_1, zuC_2, reduceIte, Nat.reduceEqDiff, false_and, and_false, true_and, and_true, and_self, or_true, true_or, or_false, false_or]; omega)) (by first | omega | (simp only [zuI_1, zuI_2, zuJ_1, zuJ_2, zuJ_3, zuP_1, zuP_2, zuP_3, zuC_1, zuC_2, reduceIte, Nat.reduceEqDiff, false_and, and_false, true_and, and_true, and_self, or_true, true_or, or_false, false_or]; omega))) (zwk_s rfl (zwk_s rfl (zwk_s rfl (zwk_s rfl (zwk_n (zwk_s rfl zwk_0))))))
                              exact zs_wk (L106 _ _ _ (by first | omega | (simp only [zuI_1, zuI_2, zuJ_1, zuJ_2, zuJ_3, zuP_1, zuP_2, zuP_3, zuC_1, zuC_2, reduceIte, Nat.reduceEqDiff, false_and, and_false, true_and, and_true, and_self, or_true, true_or, or_false, false_or]; omega)) (by repeat (first | exact zsm_rf | assumption | refine zsm_C (by decide) ?_ | refine zsm_I (by decide) ?_ | refine zsm_J ?_ | refine zsm_c (by assumption) (by decide) ?_)) (by repeat (first | exact zsm_rf | assumption | refine zsm_C (by decide) ?_ | refine zsm_I (by decide) ?_ | refine zsm_J ?_ | refine zsm_c (by assumption) (by decide) ?_)) (by first | omega | rfl | (simp only [zuI_1, zuI_2, zuJ_1, zuJ_2, zuJ_3, zuP_1, zuP_2, zuP_3, zuC_1, zuC_2, reduceIte, Nat.reduceEqDiff, false_and, and_false, true_and, and_true, and_self, or_true, true_or, or_false, false_or]; done) | (simp only [zuI_1, zuI_2, zuJ_1, zuJ_2, zuJ_3, zuP_1, zuP_2, zuP_3, zuC_1, zuC_2, reduceIte, Nat.reduceEqDiff, false_and, and_false, true_and, and_true, and_self, or_true, true_or, or_false, false_or]; omega)) (Nat.lt_succ_self _)) (zwk_s rfl (zwk_s rfl (zwk_s rfl (zwk_s rfl (zwk_n (zwk_s rfl zwk_0))))))
                  exact zs_wk (L59 _ _ _ (by omega) (fun i hi => h39_2 i (by omega)) (by repeat (first | exact zsm_rf | assumption | refine zsm_C (by decide) ?_ | refine zsm_I (by decide) ?_ | refine zsm_J ?_ | refine zsm_c (by assumption) (by decide) ?_)) (by first | omega | rfl | (simp only [zuI_1, zuI_2, zuJ_1, zuJ_2, zuJ_3, zuP_1, zuP_2, zuP_3, zuC_1, zuC_2, reduceIte, Nat.reduceEqDiff, false_and, and_false, true_and, and_true, and_self, or_true, true_or, or_false, false_or]; done) | (simp only [zuI_1, zuI_2, zuJ_1, zuJ_2, zuJ_3, zuP_1, zuP_2, zuP_3, zuC_1, zuC_2, reduceIte, Nat.reduceEqDiff, false_and, and_false, true_and, and_true, and_self, or_true, true_or, or_false, false_or]; omega)) (Nat.lt_succ_self _)) (zwk_s rfl (zwk_s rfl (zwk_s rfl (zwk_s rfl (zwk_n (zwk_n zwk_0))))))
                · skip
                  refine zs_aload_n (pc := 44) C dX9_layPlan_44 rfl ?_
                  refine zs_getf (pc := 45) C dX9_layPlan_45 w_X9_151 f_10_76 (by decide) ?_
                  refine zs_iload_n (pc := 48) C dX9_layPlan_48 rfl ?_
                  refine zs_iconst (pc := 49) C dX9_layPlan_49 (by decide) ?_
                  refine zs_iast (r := 2101) (pc := 50) C dX9_layPlan_50 a_101 (by decide) (by omega) rfl (r_2101 _) (by omega) ?_
                  first | refine zs_iinc (pc := 51) C dX9_layPlan_51 rfl (by decide) (by omega) ?_ | refine zs_iincF (pc := 51) C dX9_layPlan_51 rfl (by decide) (fun z51 hz511 hz512 => ?_)
                  dsimp only [zset, zclr, znone]
                  refine zs_goto (tgt := 39) (pc := 54) C dX9_layPlan_54 (by decide) ?_
                  exact zs_wk (ih39 _ _ (by omega) (by repeat (first | exact zsm_rf | assumption | refine zsm_C (by decide) ?_ | refine zsm_I (by decide) ?_ | refine zsm_J ?_ | refine zsm_c (by assumption) (by decide) ?_)) (lowU h39_2 h39_0.1 (by decide)) (by first | omega | rfl | (simp only [zuI_1, zuI_2, zuJ_1, zuJ_2, zuJ_3, zuP_1, zuP_2, zuP_3, zuC_1, zuC_2, reduceIte, Nat.reduceEqDiff, false_and, and_false, true_and, and_true, and_self, or_true, true_or, or_false, false_or]; done) | (simp only [zuI_1, zuI_2, zuJ_1, zuJ_2, zuJ_3, zuP_1, zuP_2, zuP_3, zuC_1, zuC_2, reduceIte, Nat.reduceEqDiff, false_and, and_false, true_and, and_true, and_self, or_true, true_or, or_false, false_or]; omega)) (by first | omega | (simp only [zuI_1, zuI_2, zuJ_1, zuJ_2, zuJ_3, zuP_1, zuP_2, zuP_3, zuC_1, zuC_2, reduceIte, Nat.reduceEqDiff, false_and, and_false, true_and, and_true, and_self, or_true, true_or, or_false, false_or]; omega))) (zwk_s rfl (zwk_s rfl (zwk_s rfl (zwk_s rfl (zwk_n (zwk_n zwk_0))))))
            exact zs_wk (L39 _ _ _ (by omega) (by repeat (first | exact zsm_rf | assumption | refine zsm_C (by decide) ?_ | refine zsm_I (by decide) ?_ | refine zsm_J ?_ | refine zsm_c (by assumption) (by decide) ?_)) (fun i hi => absurd hi (by omega)) (by first | omega | rfl | (simp only [zuI_1, zuI_2, zuJ_1, zuJ_2, zuJ_3, zuP_1, zuP_2, zuP_3, zuC_1, zuC_2, reduceIte, Nat.reduceEqDiff, false_and, and_false, true_and, and_true, and_self, or_true, true_or, or_false, false_or]; done) | (simp only [zuI_1, zuI_2, zuJ_1, zuJ_2, zuJ_3, zuP_1, zuP_2, zuP_3, zuC_1, zuC_2, reduceIte, Nat.reduceEqDiff, false_and, and_false, true_and, and_true, and_self, or_true, true_or, or_false, false_or]; omega)) (Nat.lt_succ_self _)) (zwk_s rfl (zwk_s rfl (zwk_s rfl (zwk_s rfl (zwk_n (zwk_n zwk_0))))))
          · skip
            refine zs_aload_n (pc := 23) C dX9_layPlan_23 rfl ?_
            refine zs_geti (r := 1013) (pc := 24) C dX9_layPlan_24 w_X9_261 f_10_13 rfl (r_1013 0) (fun v24 e24 l24 u24 => ?_)
            refine zs_if_le (tgt := 162) (pc := 27) C dX9_layPlan_27 (by decide) (fun h27 => ?_) (fun h27 => ?_)
            · skip
              exact zs_vret (pc := 162) C hr hlk dX9_layPlan_162 ⟨by repeat (first | exact zsm_rf | assumption | refine zsm_C (by decide) ?_ | refine zsm_I (by decide) ?_ | refine zsm_J ?_ | refine zsm_c (by assumption) (by decide) ?_), (by first | omega | rfl | (simp only [zuI_1, zuI_2, zuJ_1, zuJ_2, zuJ_3, zuP_1, zuP_2, zuP_3, zuC_1, zuC_2, reduceIte, Nat.reduceEqDiff, false_and, and_false, true_and, and_true, and_self, or_true, true_or, or_false, false_or]; done) | (simp only [zuI_1, zuI_2, zuJ_1, zuJ_2, zuJ_3, zuP_1, zuP_2, zuP_3, zuC_1, zuC_2, reduceIte, Nat.reduceEqDiff, false_and, and_false, true_and, and_true, and_self, or_true, true_or, or_false, false_or]; omega))⟩
            · skip
              refine zs_aload_n (pc := 30) C dX9_layPlan_30 rfl ?_
              refine zs_geti (r := 1012) (pc := 31) C dX9_layPlan_31 w_X9_258 f_10_12 rfl (r_1012 0) (fun v31 e31 l31 u31 => ?_)
              refine zs_if_le (tgt := 162) (pc := 34) C dX9_layPlan_34 (by decide) (fun h34 => ?_) (fun h34 => ?_)
              · skip
                exact zs_vret (pc := 162) C hr hlk dX9_layPlan_162 ⟨by repeat (first | exact zsm_rf | assumption | refine zsm_C (by decide) ?_ | refine zsm_I (by decide) ?_ | refine zsm_J ?_ | refine zsm_c (by assumption) (by decide) ?_), (by first | omega | rfl | (simp only [zuI_1, zuI_2, zuJ_1, zuJ_2, zuJ_3, zuP_1, zuP_2, zuP_3, zuC_1, zuC_2, reduceIte, Nat.reduceEqDiff, false_and, and_false, true_and, and_true, and_self, or_true, true_or, or_false, false_or]; done) | (simp only [zuI_1, zuI_2, zuJ_1, zuJ_2, zuJ_3, zuP_1, zuP_2, zuP_3, zuC_1, zuC_2, reduceIte, Nat.reduceEqDiff, false_and, and_false, true_and, and_true, and_self, or_true, true_or, or_false, false_or]; omega))⟩
              · skip
                refine zs_iconst (pc := 37) C dX9_layPlan_37 (by decide) ?_
                refine zs_istore_n (pc := 38) C dX9_layPlan_38 (by decide) ?_
                dsimp only [zset, zclr, znone]
                have L39 : ∀ (nn : Nat) (x3 : Int) (G2 : zH), (0 ≤ x3 ∧ x3 ≤ 4) → (zsm [2091, 2092, 2093, 2094, 2095, 2096, 2097, 2098, 2099, 2100, 2088, 2087, 2082, 2084, 2083, 2089, 1050, 2081, 2085, 2086, 2090, 1072, 1073, 1074, 2101, 2102, 1078, 1079] G G2) → (∀ i : Nat, (i : Int) < x3 → G2.1 2101 (Γ.2.1 w 76) i ≤ 19) → (G2.1 2090 (Γ.2.1 w 60) (0 : Int).toNat = G.1 2090 (Γ.2.1 w 60) (0 : Int).toNat) → (4 - x3).toNat < nn → Z p l e (zrm 7) s m args below meth c Γ 6 0 0 (MQ below (zQc Γ (zpv (fun G' => zsm [2091, 2092, 2093, 2094, 2095, 2096, 2097, 2098, 2099, 2100, 2088, 2087, 2082, 2084, 2083, 2089, 1050, 2081, 2085, 2086, 2090, 1072, 1073, 1074, 2101, 2102, 1078, 1079] G G' ∧ (G'.1 2090 (Γ.2.1 w 60) (0 : Int).toNat = G.1 2090 (Γ.2.1 w 60) (0 : Int).toNat)))) args s 0 0 (zA Γ)) 39 [some (zr 10 w), some (zi c0), some (zi x2), some (zi x3), none, none] [] G2 := by
                  intro nn
                  induction nn with
                  | zero => intro x3 G2 h39_0 h39_1 h39_2 h39_3 hm; exact absurd hm (Nat.not_lt_zero _)
                  | succ nn ih39 =>
                    intro x3 G2 h39_0 h39_1 h39_2 h39_3 hm39
                    refine zs_iload_n (pc := 39) C dX9_layPlan_39 rfl ?_
                    refine zs_iconst (pc := 40) C dX9_layPlan_40 (by decide) ?_
                    refine zs_icmp_ge (tgt := 57) (pc := 41) C dX9_layPlan_41 (by decide) (fun h41 => ?_) (fun h41 => ?_)
                    · skip
                      refine zs_iconst (pc := 57) C dX9_layPlan_57 (by decide) ?_
                      refine zs_istore_n (pc := 58) C dX9_layPlan_58 (by decide) ?_
                      dsimp only [zset, zclr, znone]
                      have L59 : ∀ (nn : Nat) (x3 : Int) (G3 : zH), (x3 = 0 ∨ x3 = 1) → (∀ i : Nat, i < 4 → G3.1 2101 (Γ.2.1 w 76) i ≤ 19) → (zsm [2091, 2092, 2093, 2094, 2095, 2096, 2097, 2098, 2099, 2100, 2088, 2087, 2082, 2084, 2083, 2089, 1050, 2081, 2085, 2086, 2090, 1072, 1073, 1074, 2101, 2102, 1078, 1079] G G3) → (G3.1 2090 (Γ.2.1 w 60) (0 : Int).toNat = G.1 2090 (Γ.2.1 w 60) (0 : Int).toNat) → lpm x3 (zod 25 (G3.1 2101 (Γ.2.1 w 76)) 4) < nn → Z p l e (zrm 7) s m args below meth c Γ 6 0 0 (MQ below (zQc Γ (zpv (fun G' => zsm [2091, 2092, 2093, 2094, 2095, 2096, 2097, 2098, 2099, 2100, 2088, 2087, 2082, 2084, 2083, 2089, 1050, 2081, 2085, 2086, 2090, 1072, 1073, 1074, 2101, 2102, 1078, 1079] G G' ∧ (G'.1 2090 (Γ.2.1 w 60) (0 : Int).toNat = G.1 2090 (Γ.2.1 w 60) (0 : Int).toNat)))) args s 0 0 (zA Γ)) 59 [some (zr 10 w), some (zi c0), some (zi x2), some (zi x3), none, none] [] G3 := by
                        intro nn
                        induction nn with
                        | zero => intro x3 G3 h59_0 h59_1 h59_2 h59_3 hm; exact absurd hm (Nat.not_lt_zero _)
                        | succ nn ih59 =>
                          intro x3 G3 h59_0 h59_1 h59_2 h59_3 hm59
                          refine zs_iload_n (pc := 59) C dX9_layPlan_59 rfl ?_
                          refine zs_if_eq (tgt := 156) (pc := 60) C dX9_layPlan_60 (by decide) (fun h60 => ?_) (fun h60 => ?_)
                          · skip
                            first | refine zs_iinc (pc := 156) C dX9_layPlan_156 rfl (by decide) (by omega) ?_ | refine zs_iincF (pc := 156) C dX9_layPlan_156 rfl (by decide) (fun z156 hz1561 hz1562 => ?_)
                            dsimp only [zset, zclr, znone]
                            refine zs_goto (tgt := 7) (pc := 159) C dX9_layPlan_159 (by decide) ?_
                            exact zs_wk (ih7 _ _ (by first | omega | (simp only [zuI_1, zuI_2, zuJ_1, zuJ_2, zuJ_3, zuP_1, zuP_2, zuP_3, zuC_1, zuC_2, reduceIte, Nat.reduceEqDiff, false_and, and_false, true_and, and_true, and_self, or_true, true_or, or_false, false_or]; omega)) (by repeat (first | exact zsm_rf | assumption | refine zsm_C (by decide) ?_ | refine zsm_I (by decide) ?_ | refine zsm_J ?_ | refine zsm_c (by assumption) (by decide) ?_)) (by first | omega | rfl | (simp only [zuI_1, zuI_2, zuJ_1, zuJ_2, zuJ_3, zuP_1, zuP_2, zuP_3, zuC_1, zuC_2, reduceIte, Nat.reduceEqDiff, false_and, and_false, true_and, and_true, and_self, or_true, true_or, or_false, false_or]; done) | (simp only [zuI_1, zuI_2, zuJ_1, zuJ_2, zuJ_3, zuP_1, zuP_2, zuP_3, zuC_1, zuC_2, reduceIte, Nat.reduceEqDiff, false_and, and_false, true_and, and_true, and_self, or_true, true_or, or_false, false_or]; omega)) (by first | omega | (simp only [zuI_1, zuI_2, zuJ_1, zuJ_2, zuJ_3, zuP_1, zuP_2, zuP_3, zuC_1, zuC_2, reduceIte, Nat.reduceEqDiff, false_and, and_false, true_and, and_true, and_self, or_true, true_or, or_false, false_or]; omega))) (zwk_s rfl (zwk_s rfl (zwk_s rfl (zwk_n (zwk_n (zwk_n zwk_0))))))
                          · skip
                            refine zs_aload_n (pc := 63) C dX9_layPlan_63 rfl ?_
                            refine zs_iload_n (pc := 64) C dX9_layPlan_64 rfl ?_
                            refine zs_iload_n (pc := 65) C dX9_layPlan_65 rfl ?_
                            refine zVi2 (pc := 66) C dX9_layPlan_66 v_X9_504 (c_X9_fallsByE hX (by repeat (first | assumption | refine MI_I (by decide) ?_ | refine MI_J ?_ | refine MI_sm (by assumption) (by decide) ?_ | refine MI_sn (by assumption) (by decide) ?_)) (by omega) (by omega) (by omega)) (by decide) (by decide) ⟨Nat.zero_le _, Nat.zero_le _⟩ (Nat.le_of_ble_eq_true rfl) (fun x66 G66 l66 u66 hp66 => ?_)
                            obtain ⟨hz66, hq66⟩ := hp66
                            refine zs_istore (pc := 69) C dX9_layPlan_69 (by decide) ?_
                            dsimp only [zset, zclr, znone]
                            have J132 : ∀ (G5 : zH), (zsm [2091, 2092, 2093, 2094, 2095, 2096, 2097, 2098, 2099, 2100, 2088, 2087, 2082, 2084, 2083, 2089, 1050, 2081, 2085, 2086, 2090, 1072, 1073, 1074, 2101, 2102, 1078, 1079] G G5) → (G5.1 2101 = G3.1 2101) → (G5.1 2090 (Γ.2.1 w 60) (0 : Int).toNat = G.1 2090 (Γ.2.1 w 60) (0 : Int).toNat) → Z p l e (zrm 7) s m args below meth c Γ 6 0 0 (MQ below (zQc Γ (zpv (fun G' => zsm [2091, 2092, 2093, 2094, 2095, 2096, 2097, 2098, 2099, 2100, 2088, 2087, 2082, 2084, 2083, 2089, 1050, 2081, 2085, 2086, 2090, 1072, 1073, 1074, 2101, 2102, 1078, 1079] G G' ∧ (G'.1 2090 (Γ.2.1 w 60) (0 : Int).toNat = G.1 2090 (Γ.2.1 w 60) (0 : Int).toNat)))) args s 0 0 (zA Γ)) 132 [some (zr 10 w), some (zi c0), some (zi x2), some (zi x3), none, none] [] G5 := by
                              intro G5 h132_0 h132_1 h132_2
                              have hr5 : ∀ i : Nat, i < 4 → G5.1 2101 (Γ.2.1 w 76) i ≤ 19 := fun i hi => by rw [h132_1]; exact h59_1 i hi
                              refine zs_good (fun hGd5 => ?_)
                              have hzb := zod4_b (row24 hGd5 (Γ.2.1 w 76))
                              rw [h132_1] at hzb
                              refine zs_aload_n (pc := 132) C dX9_layPlan_132 rfl ?_
                              refine zs_geti (r := 1078) (pc := 133) C dX9_layPlan_133 w_X9_501 f_10_78 rfl (r_1078 0) (fun v133 e133 l133 u133 => ?_)
                              refine zs_if_eq (tgt := 151) (pc := 136) C dX9_layPlan_136 (by decide) (fun h136 => ?_) (fun h136 => ?_)
                              · skip
                                refine zs_iconst (pc := 151) C dX9_layPlan_151 (by decide) ?_
                                refine zs_istore_n (pc := 152) C dX9_layPlan_152 (by decide) ?_
                                dsimp only [zset, zclr, znone]
                                refine zs_goto (tgt := 59) (pc := 153) C dX9_layPlan_153 (by decide) ?_
                                exact zs_wk (ih59 _ _ (by omega) (by first | exact hq141.2.1 | exact hr5) (by repeat (first | exact zsm_rf | assumption | refine zsm_C (by decide) ?_ | refine zsm_I (by decide) ?_ | refine zsm_J ?_ | refine zsm_c (by assumption) (by decide) ?_)) (by first | omega | rfl | (simp only [zuI_1, zuI_2, zuJ_1, zuJ_2, zuJ_3, zuP_1, zuP_2, zuP_3, zuC_1, zuC_2, reduceIte, Nat.reduceEqDiff, false_and, and_false, true_and, and_true, and_self, or_true, true_or, or_false, false_or]; done) | (simp only [zuI_1, zuI_2, zuJ_1, zuJ_2, zuJ_3, zuP_1, zuP_2, zuP_3, zuC_1, zuC_2, reduceIte, Nat.reduceEqDiff, false_and, and_false, true_and, and_true, and_self, or_true, true_or, or_false, false_or]; omega)) (by first | exact lpm_s0 hm59 h60 hzb | exact lpm_s1 hm59 h60 (hq5 (by omega)) hzb6)) (zwk_s rfl (zwk_s rfl (zwk_s rfl (zwk_s rfl (zwk_n (zwk_n zwk_0))))))
                              · skip
                                refine zs_aload_n (pc := 139) C dX9_layPlan_139 rfl ?_
                                refine zs_iload_n (pc := 140) C dX9_layPlan_140 rfl ?_
                                refine zVi1 (pc := 141) C dX9_layPlan_141 v_X9_510 (c_X9_nextRow hX (by omega) (by omega)) (by decide) (by decide) ⟨Nat.zero_le _, Nat.zero_le _⟩ (Nat.le_of_ble_eq_true rfl) (fun x141 G141 l141 u141 hp141 => ?_)
                                obtain ⟨hz141, hq141⟩ := hp141
                                have tr141_2090 := zsm_at hz141 2090 (Γ.2.1 w 60) (0 : Int).toNat (by decide)
                                try simp only [zuI_1, zuI_2, zuJ_1, zuJ_2, zuJ_3, zuP_1, zuP_2, zuP_3, zuC_1, zuC_2, reduceIte, Nat.reduceEqDiff, false_and, and_false, true_and, and_true, and_self, or_true, true_or, or_false, false_or] at tr141_2090
                                have hq5 := hq141.2.2
                                rw [h132_1] at hq5
                                refine zs_good (fun hGd6 => ?_)
                                have hzb6 := zod4_b (row24 hGd6 (Γ.2.1 w 76))
                                refine zs_if_eq (tgt := 151) (pc := 144) C dX9_layPlan_144 (by decide) (fun h144 => ?_) (fun h144 => ?_)
                                · skip
                                  refine zs_iconst (pc := 151) C dX9_layPlan_151 (by decide) ?_
                                  refine zs_istore_n (pc := 152) C dX9_layPlan_152 (by decide) ?_
                                  dsimp only [zset, zclr, znone]
                                  refine zs_goto (tgt := 59) (pc := 153) C dX9_layPlan_153 (by decide) ?_
                                  exact zs_wk (ih59 _ _ (by omega) (by first | exact hq141.2.1 | exact hr5) (by repeat (first | exact zsm_rf | assumption | refine zsm_C (by decide) ?_ | refine zsm_I (by decide) ?_ | refine zsm_J ?_ | refine zsm_c (by assumption) (by decide) ?_)) (by first | omega | rfl | (simp only [zuI_1, zuI_2, zuJ_1, zuJ_2, zuJ_3, zuP_1, zuP_2, zuP_3, zuC_1, zuC_2, reduceIte, Nat.reduceEqDiff, false_and, and_false, true_and, and_true, and_self, or_true, true_or, or_false, false_or]; done) | (simp only [zuI_1, zuI_2, zuJ_1, zuJ_2, zuJ_3, zuP_1, zuP_2, zuP_3, zuC_1, zuC_2, reduceIte, Nat.reduceEqDiff, false_and, and_false, true_and, and_true, and_self, or_true, true_or, or_false, false_or]; omega)) (by first | exact lpm_s0 hm59 h60 hzb | exact lpm_s1 hm59 h60 (hq5 (by omega)) hzb6)) (zwk_s rfl (zwk_s rfl (zwk_s rfl (zwk_s rfl (zwk_n (zwk_n zwk_0))))))
                                · skip
                                  refine zs_iconst (pc := 147) C dX9_layPlan_147 (by decide) ?_
                                  refine zs_goto (tgt := 152) (pc := 148) C dX9_layPlan_148 (by decide) ?_
                                  refine zs_istore_n (pc := 152) C dX9_layPlan_152 (by decide) ?_
                                  dsimp only [zset, zclr, znone]
                                  refine zs_goto (tgt := 59) (pc := 153) C dX9_layPlan_153 (by decide) ?_
                                  exact zs_wk (ih59 _ _ (by omega) (by first | exact hq141.2.1 | exact hr5) (by repeat (first | exact zsm_rf | assumption | refine zsm_C (by decide) ?_ | refine zsm_I (by decide) ?_ | refine zsm_J ?_ | refine zsm_c (by assumption) (by decide) ?_)) (by first | omega | rfl | (simp only [zuI_1, zuI_2, zuJ_1, zuJ_2, zuJ_3, zuP_1, zuP_2, zuP_3, zuC_1, zuC_2, reduceIte, Nat.reduceEqDiff, false_and, and_false, true_and, and_true, and_self, or_true, true_or, or_false, false_or]; done) | (simp only [zuI_1, zuI_2, zuJ_1, zuJ_2, zuJ_3, zuP_1, zuP_2, zuP_3, zuC_1, zuC_2, reduceIte, Nat.reduceEqDiff, false_and, and_false, true_and, and_true, and_self, or_true, true_or, or_false, false_or]; omega)) (by first | exact lpm_s0 hm59 h60 hzb | exact lpm_s1 hm59 h60 (hq5 (by omega)) hzb6)) (zwk_s rfl (zwk_s rfl (zwk_s rfl (zwk_s rfl (zwk_n (zwk_n zwk_0))))))
                            refine zs_iload (pc := 71) C dX9_layPlan_71 rfl ?_
                            refine zs_if_lt (tgt := 132) (pc := 73) C dX9_layPlan_73 (by decide) (fun h73 => ?_) (fun h73 => ?_)
                            · skip
                              exact zs_wk (J132 _ (by repeat (first | exact zsm_rf | assumption | refine zsm_C (by decide) ?_ | refine zsm_I (by decide) ?_ | refine zsm_J ?_ | refine zsm_c (by assumption) (by decide) ?_)) (by first | exact hz66.1 2101 (by decide) | exact (h106_2.1 2101 (by decide)).trans (hz66.1 2101 (by decide))) (by first | omega | rfl | (simp only [zuI_1, zuI_2, zuJ_1, zuJ_2, zuJ_3, zuP_1, zuP_2, zuP_3, zuC_1, zuC_2, reduceIte, Nat.reduceEqDiff, false_and, and_false, true_and, and_true, and_self, or_true, true_or, or_false, false_or]; done) | (simp only [zuI_1, zuI_2, zuJ_1, zuJ_2, zuJ_3, zuP_1, zuP_2, zuP_3, zuC_1, zuC_2, reduceIte, Nat.reduceEqDiff, false_and, and_false, true_and, and_true, and_self, or_true, true_or, or_false, false_or]; omega))) (zwk_s rfl (zwk_s rfl (zwk_s rfl (zwk_s rfl (zwk_n (zwk_n zwk_0))))))
                            · skip
                              refine zs_aload_n (pc := 76) C dX9_layPlan_76 rfl ?_
                              refine zs_geti (r := 1078) (pc := 77) C dX9_layPlan_77 w_X9_501 f_10_78 rfl (r_1078 0) (fun v77 e77 l77 u77 => ?_)
                              refine zs_if_lt (tgt := 92) (pc := 80) C dX9_layPlan_80 (by decide) (fun h80 => ?_) (fun h80 => ?_)
                              · skip
                                refine zs_aload_n (pc := 92) C dX9_layPlan_92 rfl ?_
                                refine zs_iload (pc := 93) C dX9_layPlan_93 rfl ?_
                                refine zs_puti (r := 1078) (pc := 95) C dX9_layPlan_95 w_X9_501 f_10_78 rfl (r_1078 0) (by omega) ?_
                                refine zs_aload_n (pc := 98) C dX9_layPlan_98 rfl ?_
                                refine zs_iload_n (pc := 99) C dX9_layPlan_99 rfl ?_
                                refine zs_puti (r := 1079) (pc := 100) C dX9_layPlan_100 w_X9_507 f_10_79 rfl (r_1079 0) (by omega) ?_
                                refine zs_iconst (pc := 103) C dX9_layPlan_103 (by decide) ?_
                                refine zs_istore (pc := 104) C dX9_layPlan_104 (by decide) ?_
                                dsimp only [zset, zclr, znone]
                                have L106 : ∀ (nn : Nat) (x5 : Int) (G6 : zH), (0 ≤ x5 ∧ x5 ≤ 4) → (zsm [2091, 2092, 2093, 2094, 2095, 2096, 2097, 2098, 2099, 2100, 2088, 2087, 2082, 2084, 2083, 2089, 1050, 2081, 2085, 2086, 2090, 1072, 1073, 1074, 2101, 2102, 1078, 1079] G G6) → (zsm [2102, 1078, 1079] G66 G6) → (G6.1 2090 (Γ.2.1 w 60) (0 : Int).toNat = G.1 2090 (Γ.2.1 w 60) (0 : Int).toNat) → (4 - x5).toNat < nn → Z p l e (zrm 7) s m args below meth c Γ 6 0 0 (MQ below (zQc Γ (zpv (fun G' => zsm [2091, 2092, 2093, 2094, 2095, 2096, 2097, 2098, 2099, 2100, 2088, 2087, 2082, 2084, 2083, 2089, 1050, 2081, 2085, 2086, 2090, 1072, 1073, 1074, 2101, 2102, 1078, 1079] G G' ∧ (G'.1 2090 (Γ.2.1 w 60) (0 : Int).toNat = G.1 2090 (Γ.2.1 w 60) (0 : Int).toNat)))) args s 0 0 (zA Γ)) 106 [some (zr 10 w), some (zi c0), some (zi x2), some (zi x3), none, some (zi x5)] [] G6 := by
                                  intro nn
                                  induction nn with
                                  | zero => intro x5 G6 h106_0 h106_1 h106_2 h106_3 hm; exact absurd hm (Nat.not_lt_zero _)
                                  | succ nn ih106 =>
                                    intro x5 G6 h106_0 h106_1 h106_2 h106_3 hm106
                                    refine zs_iload (pc := 106) C dX9_layPlan_106 rfl ?_
                                    refine zs_iconst (pc := 108) C dX9_layPlan_108 (by decide) ?_
                                    refine zs_icmp_ge (tgt := 132) (pc := 109) C dX9_layPlan_109 (by decide) (fun h109 => ?_) (fun h109 => ?_)
                                    · skip
                                      exact zs_wk (J132 _ (by repeat (first | exact zsm_rf | assumption | refine zsm_C (by decide) ?_ | refine zsm_I (by decide) ?_ | refine zsm_J ?_ | refine zsm_c (by assumption) (by decide) ?_)) (by first | exact hz66.1 2101 (by decide) | exact (h106_2.1 2101 (by decide)).trans (hz66.1 2101 (by decide))) (by first | omega | rfl | (simp only [zuI_1, zuI_2, zuJ_1, zuJ_2, zuJ_3, zuP_1, zuP_2, zuP_3, zuC_1, zuC_2, reduceIte, Nat.reduceEqDiff, false_and, and_false, true_and, and_true, and_self, or_true, true_or, or_false, false_or]; done) | (simp only [zuI_1, zuI_2, zuJ_1, zuJ_2, zuJ_3, zuP_1, zuP_2, zuP_3, zuC_1, zuC_2, reduceIte, Nat.reduceEqDiff, false_and, and_false, true_and, and_true, and_self, or_true, true_or, or_false, false_or]; omega))) (zwk_s rfl (zwk_s rfl (zwk_s rfl (zwk_s rfl (zwk_n (zwk_n zwk_0))))))
                                    · skip
                                      refine zs_aload_n (pc := 112) C dX9_layPlan_112 rfl ?_
                                      refine zs_getf (pc := 113) C dX9_layPlan_113 w_X9_154 f_10_77 (by decide) ?_
                                      refine zs_iload (pc := 116) C dX9_layPlan_116 rfl ?_
                                      refine zs_aload_n (pc := 118) C dX9_layPlan_118 rfl ?_
                                      refine zs_getf (pc := 119) C dX9_layPlan_119 w_X9_151 f_10_76 (by decide) ?_
                                      refine zs_iload (pc := 122) C dX9_layPlan_122 rfl ?_
                                      refine zs_iald (r := 2101) (pc := 124) C dX9_layPlan_124 a_101 (by decide) (by omega) rfl (r_2101 _) (fun v124 e124 l124 u124 => ?_)
                                      refine zs_iast (r := 2102) (pc := 125) C dX9_layPlan_125 a_102 (by decide) (by omega) rfl (r_2102 _) (by omega) ?_
                                      first | refine zs_iinc (pc := 126) C dX9_layPlan_126 rfl (by decide) (by omega) ?_ | refine zs_iincF (pc := 126) C dX9_layPlan_126 rfl (by decide) (fun z126 hz1261 hz1262 => ?_)
                                      dsimp only [zset, zclr, znone]
                                      refine zs_goto (tgt := 106) (pc := 129) C dX9_layPlan_129 (by decide) ?_
                                      exact zs_wk (ih106 _ _ (by first | omega | (simp only [zuI_1, zuI_2, zuJ_1, zuJ_2, zuJ_3, zuP_1, zuP_2, zuP_3, zuC_1, zuC_2, reduceIte, Nat.reduceEqDiff, false_and, and_false, true_and, and_true, and_self, or_true, true_or, or_false, false_or]; omega)) (by repeat (first | exact zsm_rf | assumption | refine zsm_C (by decide) ?_ | refine zsm_I (by decide) ?_ | refine zsm_J ?_ | refine zsm_c (by assumption) (by decide) ?_)) (by repeat (first | exact zsm_rf | assumption | refine zsm_C (by decide) ?_ | refine zsm_I (by decide) ?_ | refine zsm_J ?_ | refine zsm_c (by assumption) (by decide) ?_)) (by first | omega | rfl | (simp only [zuI_1, zuI_2, zuJ_1, zuJ_2, zuJ_3, zuP_1, zuP_2, zuP_3, zuC_1, zuC_2, reduceIte, Nat.reduceEqDiff, false_and, and_false, true_and, and_true, and_self, or_true, true_or, or_false, false_or]; done) | (simp only [zuI_1, zuI_2, zuJ_1, zuJ_2, zuJ_3, zuP_1, zuP_2, zuP_3, zuC_1, zuC_2, reduceIte, Nat.reduceEqDiff, false_and, and_false, true_and, and_true, and_self, or_true, true_or, or_false, false_or]; omega)) (by first | omega | (simp only [zuI_1, zuI_2, zuJ_1, zuJ_2, zuJ_3, zuP_1, zuP_2, zuP_3, zuC_1, zuC_2, reduceIte, Nat.reduceEqDiff, false_and, and_false, true_and, and_true, and_self, or_true, true_or, or_false, false_or]; omega))) (zwk_s rfl (zwk_s rfl (zwk_s rfl (zwk_s rfl (zwk_n (zwk_s rfl zwk_0))))))
                                exact zs_wk (L106 _ _ _ (by first | omega | (simp only [zuI_1, zuI_2, zuJ_1, zuJ_2, zuJ_3, zuP_1, zuP_2, zuP_3, zuC_1, zuC_2, reduceIte, Nat.reduceEqDiff, false_and, and_false, true_and, and_true, and_self, or_true, true_or, or_false, false_or]; omega)) (by repeat (first | exact zsm_rf | assumption | refine zsm_C (by decide) ?_ | refine zsm_I (by decide) ?_ | refine zsm_J ?_ | refine zsm_c (by assumption) (by decide) ?_)) (by repeat (first | exact zsm_rf | assumption | refine zsm_C (by decide) ?_ | refine zsm_I (by decide) ?_ | refine zsm_J ?_ | refine zsm_c (by assumption) (by decide) ?_)) (by first | omega | rfl | (simp only [zuI_1, zuI_2, zuJ_1, zuJ_2, zuJ_3, zuP_1, zuP_2, zuP_3, zuC_1, zuC_2, reduceIte, Nat.reduceEqDiff, false_and, and_false, true_and, and_true, and_self, or_true, true_or, or_false, false_or]; done) | (simp only [zuI_1, zuI_2, zuJ_1, zuJ_2, zuJ_3, zuP_1, zuP_2, zuP_3, zuC_1, zuC_2, reduceIte, Nat.reduceEqDiff, false_and, and_false, true_and, and_true, and_self, or_true, true_or, or_false, false_or]; omega)) (Nat.lt_succ_self _)) (zwk_s rfl (zwk_s rfl (zwk_s rfl (zwk_s rfl (zwk_n (zwk_s rfl zwk_0))))))
                              · skip
                                refine zs_iload (pc := 83) C dX9_layPlan_83 rfl ?_
                                refine zs_aload_n (pc := 85) C dX9_layPlan_85 rfl ?_
                                refine zs_geti (r := 1078) (pc := 86) C dX9_layPlan_86 w_X9_501 f_10_78 rfl (r_1078 0) (fun v86 e86 l86 u86 => ?_)
                                refine zs_icmp_ge (tgt := 132) (pc := 89) C dX9_layPlan_89 (by decide) (fun h89 => ?_) (fun h89 => ?_)
                                · skip
                                  exact zs_wk (J132 _ (by repeat (first | exact zsm_rf | assumption | refine zsm_C (by decide) ?_ | refine zsm_I (by decide) ?_ | refine zsm_J ?_ | refine zsm_c (by assumption) (by decide) ?_)) (by first | exact hz66.1 2101 (by decide) | exact (h106_2.1 2101 (by decide)).trans (hz66.1 2101 (by decide))) (by first | omega | rfl | (simp only [zuI_1, zuI_2, zuJ_1, zuJ_2, zuJ_3, zuP_1, zuP_2, zuP_3, zuC_1, zuC_2, reduceIte, Nat.reduceEqDiff, false_and, and_false, true_and, and_true, and_self, or_true, true_or, or_false, false_or]; done) | (simp only [zuI_1, zuI_2, zuJ_1, zuJ_2, zuJ_3, zuP_1, zuP_2, zuP_3, zuC_1, zuC_2, reduceIte, Nat.reduceEqDiff, false_and, and_false, true_and, and_true, and_self, or_true, true_or, or_false, false_or]; omega))) (zwk_s rfl (zwk_s rfl (zwk_s rfl (zwk_s rfl (zwk_n (zwk_n zwk_0))))))
                                · skip
                                  refine zs_aload_n (pc := 92) C dX9_layPlan_92 rfl ?_
                                  refine zs_iload (pc := 93) C dX9_layPlan_93 rfl ?_
                                  refine zs_puti (r := 1078) (pc := 95) C dX9_layPlan_95 w_X9_501 f_10_78 rfl (r_1078 0) (by omega) ?_
                                  refine zs_aload_n (pc := 98) C dX9_layPlan_98 rfl ?_
                                  refine zs_iload_n (pc := 99) C dX9_layPlan_99 rfl ?_
                                  refine zs_puti (r := 1079) (pc := 100) C dX9_layPlan_100 w_X9_507 f_10_79 rfl (r_1079 0) (by omega) ?_
                                  refine zs_iconst (pc := 103) C dX9_layPlan_103 (by decide) ?_
                                  refine zs_istore (pc := 104) C dX9_layPlan_104 (by decide) ?_
                                  dsimp only [zset, zclr, znone]
                                  have L106 : ∀ (nn : Nat) (x5 : Int) (G6 : zH), (0 ≤ x5 ∧ x5 ≤ 4) → (zsm [2091, 2092, 2093, 2094, 2095, 2096, 2097, 2098, 2099, 2100, 2088, 2087, 2082, 2084, 2083, 2089, 1050, 2081, 2085, 2086, 2090, 1072, 1073, 1074, 2101, 2102, 1078, 1079] G G6) → (zsm [2102, 1078, 1079] G66 G6) → (G6.1 2090 (Γ.2.1 w 60) (0 : Int).toNat = G.1 2090 (Γ.2.1 w 60) (0 : Int).toNat) → (4 - x5).toNat < nn → Z p l e (zrm 7) s m args below meth c Γ 6 0 0 (MQ below (zQc Γ (zpv (fun G' => zsm [2091, 2092, 2093, 2094, 2095, 2096, 2097, 2098, 2099, 2100, 2088, 2087, 2082, 2084, 2083, 2089, 1050, 2081, 2085, 2086, 2090, 1072, 1073, 1074, 2101, 2102, 1078, 1079] G G' ∧ (G'.1 2090 (Γ.2.1 w 60) (0 : Int).toNat = G.1 2090 (Γ.2.1 w 60) (0 : Int).toNat)))) args s 0 0 (zA Γ)) 106 [some (zr 10 w), some (zi c0), some (zi x2), some (zi x3), none, some (zi x5)] [] G6 := by
                                    intro nn
                                    induction nn with
                                    | zero => intro x5 G6 h106_0 h106_1 h106_2 h106_3 hm; exact absurd hm (Nat.not_lt_zero _)
                                    | succ nn ih106 =>
                                      intro x5 G6 h106_0 h106_1 h106_2 h106_3 hm106
                                      refine zs_iload (pc := 106) C dX9_layPlan_106 rfl ?_
                                      refine zs_iconst (pc := 108) C dX9_layPlan_108 (by decide) ?_
                                      refine zs_icmp_ge (tgt := 132) (pc := 109) C dX9_layPlan_109 (by decide) (fun h109 => ?_) (fun h109 => ?_)
                                      · skip
                                        exact zs_wk (J132 _ (by repeat (first | exact zsm_rf | assumption | refine zsm_C (by decide) ?_ | refine zsm_I (by decide) ?_ | refine zsm_J ?_ | refine zsm_c (by assumption) (by decide) ?_)) (by first | exact hz66.1 2101 (by decide) | exact (h106_2.1 2101 (by decide)).trans (hz66.1 2101 (by decide))) (by first | omega | rfl | (simp only [zuI_1, zuI_2, zuJ_1, zuJ_2, zuJ_3, zuP_1, zuP_2, zuP_3, zuC_1, zuC_2, reduceIte, Nat.reduceEqDiff, false_and, and_false, true_and, and_true, and_self, or_true, true_or, or_false, false_or]; done) | (simp only [zuI_1, zuI_2, zuJ_1, zuJ_2, zuJ_3, zuP_1, zuP_2, zuP_3, zuC_1, zuC_2, reduceIte, Nat.reduceEqDiff, false_and, and_false, true_and, and_true, and_self, or_true, true_or, or_false, false_or]; omega))) (zwk_s rfl (zwk_s rfl (zwk_s rfl (zwk_s rfl (zwk_n (zwk_n zwk_0))))))
                                      · skip
                                        refine zs_aload_n (pc := 112) C dX9_layPlan_112 rfl ?_
                                        refine zs_getf (pc := 113) C dX9_layPlan_113 w_X9_154 f_10_77 (by decide) ?_
                                        refine zs_iload (pc := 116) C dX9_layPlan_116 rfl ?_
                                        refine zs_aload_n (pc := 118) C dX9_layPlan_118 rfl ?_
                                        refine zs_getf (pc := 119) C dX9_layPlan_119 w_X9_151 f_10_76 (by decide) ?_
                                        refine zs_iload (pc := 122) C dX9_layPlan_122 rfl ?_
                                        refine zs_iald (r := 2101) (pc := 124) C dX9_layPlan_124 a_101 (by decide) (by omega) rfl (r_2101 _) (fun v124 e124 l124 u124 => ?_)
                                        refine zs_iast (r := 2102) (pc := 125) C dX9_layPlan_125 a_102 (by decide) (by omega) rfl (r_2102 _) (by omega) ?_
                                        first | refine zs_iinc (pc := 126) C dX9_layPlan_126 rfl (by decide) (by omega) ?_ | refine zs_iincF (pc := 126) C dX9_layPlan_126 rfl (by decide) (fun z126 hz1261 hz1262 => ?_)
                                        dsimp only [zset, zclr, znone]
                                        refine zs_goto (tgt := 106) (pc := 129) C dX9_layPlan_129 (by decide) ?_
                                        exact zs_wk (ih106 _ _ (by first | omega | (simp only [zuI_1, zuI_2, zuJ_1, zuJ_2, zuJ_3, zuP_1, zuP_2, zuP_3, zuC_1, zuC_2, reduceIte, Nat.reduceEqDiff, false_and, and_false, true_and, and_true, and_self, or_true, true_or, or_false, false_or]; omega)) (by repeat (first | exact zsm_rf | assumption | refine zsm_C (by decide) ?_ | refine zsm_I (by decide) ?_ | refine zsm_J ?_ | refine zsm_c (by assumption) (by decide) ?_)) (by repeat (first | exact zsm_rf | assumption | refine zsm_C (by decide) ?_ | refine zsm_I (by decide) ?_ | refine zsm_J ?_ | refine zsm_c (by assumption) (by decide) ?_)) (by first | omega | rfl | (simp only [zuI_1, zuI_2, zuJ_1, zuJ_2, zuJ_3, zuP_1, zuP_2, zuP_3, zuC_1, zuC_2, reduceIte, Nat.reduceEqDiff, false_and, and_false, true_and, and_true, and_self, or_true, true_or, or_false, false_or]; done) | (simp only [zuI_1, zuI_2, zuJ_1, zuJ_2, zuJ_3, zuP_1, zuP_2, zuP_3, zuC_1, zuC_2, reduceIte, Nat.reduceEqDiff, false_and, and_false, true_and, and_true, and_self, or_true, true_or, or_false, false_or]; omega)) (by first | omega | (simp only [zuI_1, zuI_2, zuJ_1, zuJ_2, zuJ_3, zuP_1, zuP_2, zuP_3, zuC_1, zuC_2, reduceIte, Nat.reduceEqDiff, false_and, and_false, true_and, and_true, and_self, or_true, true_or, or_false, false_or]; omega))) (zwk_s rfl (zwk_s rfl (zwk_s rfl (zwk_s rfl (zwk_n (zwk_s rfl zwk_0))))))
                                  exact zs_wk (L106 _ _ _ (by first | omega | (simp only [zuI_1, zuI_2, zuJ_1, zuJ_2, zuJ_3, zuP_1, zuP_2, zuP_3, zuC_1, zuC_2, reduceIte, Nat.reduceEqDiff, false_and, and_false, true_and, and_true, and_self, or_true, true_or, or_false, false_or]; omega)) (by repeat (first | exact zsm_rf | assumption | refine zsm_C (by decide) ?_ | refine zsm_I (by decide) ?_ | refine zsm_J ?_ | refine zsm_c (by assumption) (by decide) ?_)) (by repeat (first | exact zsm_rf | assumption | refine zsm_C (by decide) ?_ | refine zsm_I (by decide) ?_ | refine zsm_J ?_ | refine zsm_c (by assumption) (by decide) ?_)) (by first | omega | rfl | (simp only [zuI_1, zuI_2, zuJ_1, zuJ_2, zuJ_3, zuP_1, zuP_2, zuP_3, zuC_1, zuC_2, reduceIte, Nat.reduceEqDiff, false_and, and_false, true_and, and_true, and_self, or_true, true_or, or_false, false_or]; done) | (simp only [zuI_1, zuI_2, zuJ_1, zuJ_2, zuJ_3, zuP_1, zuP_2, zuP_3, zuC_1, zuC_2, reduceIte, Nat.reduceEqDiff, false_and, and_false, true_and, and_true, and_self, or_true, true_or, or_false, false_or]; omega)) (Nat.lt_succ_self _)) (zwk_s rfl (zwk_s rfl (zwk_s rfl (zwk_s rfl (zwk_n (zwk_s rfl zwk_0))))))
                      exact zs_wk (L59 _ _ _ (by omega) (fun i hi => h39_2 i (by omega)) (by repeat (first | exact zsm_rf | assumption | refine zsm_C (by decide) ?_ | refine zsm_I (by decide) ?_ | refine zsm_J ?_ | refine zsm_c (by assumption) (by decide) ?_)) (by first | omega | rfl | (simp only [zuI_1, zuI_2, zuJ_1, zuJ_2, zuJ_3, zuP_1, zuP_2, zuP_3, zuC_1, zuC_2, reduceIte, Nat.reduceEqDiff, false_and, and_false, true_and, and_true, and_self, or_true, true_or, or_false, false_or]; done) | (simp only [zuI_1, zuI_2, zuJ_1, zuJ_2, zuJ_3, zuP_1, zuP_2, zuP_3, zuC_1, zuC_2, reduceIte, Nat.reduceEqDiff, false_and, and_false, true_and, and_true, and_self, or_true, true_or, or_false, false_or]; omega)) (Nat.lt_succ_self _)) (zwk_s rfl (zwk_s rfl (zwk_s rfl (zwk_s rfl (zwk_n (zwk_n zwk_0))))))
                    · skip
                      refine zs_aload_n (pc := 44) C dX9_layPlan_44 rfl ?_
                      refine zs_getf (pc := 45) C dX9_layPlan_45 w_X9_151 f_10_76 (by decide) ?_
                      refine zs_iload_n (pc := 48) C dX9_layPlan_48 rfl ?_
                      refine zs_iconst (pc := 49) C dX9_layPlan_49 (by decide) ?_
                      refine zs_iast (r := 2101) (pc := 50) C dX9_layPlan_50 a_101 (by decide) (by omega) rfl (r_2101 _) (by omega) ?_
                      first | refine zs_iinc (pc := 51) C dX9_layPlan_51 rfl (by decide) (by omega) ?_ | refine zs_iincF (pc := 51) C dX9_layPlan_51 rfl (by decide) (fun z51 hz511 hz512 => ?_)
                      dsimp only [zset, zclr, znone]
                      refine zs_goto (tgt := 39) (pc := 54) C dX9_layPlan_54 (by decide) ?_
                      exact zs_wk (ih39 _ _ (by omega) (by repeat (first | exact zsm_rf | assumption | refine zsm_C (by decide) ?_ | refine zsm_I (by decide) ?_ | refine zsm_J ?_ | refine zsm_c (by assumption) (by decide) ?_)) (lowU h39_2 h39_0.1 (by decide)) (by first | omega | rfl | (simp only [zuI_1, zuI_2, zuJ_1, zuJ_2, zuJ_3, zuP_1, zuP_2, zuP_3, zuC_1, zuC_2, reduceIte, Nat.reduceEqDiff, false_and, and_false, true_and, and_true, and_self, or_true, true_or, or_false, false_or]; done) | (simp only [zuI_1, zuI_2, zuJ_1, zuJ_2, zuJ_3, zuP_1, zuP_2, zuP_3, zuC_1, zuC_2, reduceIte, Nat.reduceEqDiff, false_and, and_false, true_and, and_true, and_self, or_true, true_or, or_false, false_or]; omega)) (by first | omega | (simp only [zuI_1, zuI_2, zuJ_1, zuJ_2, zuJ_3, zuP_1, zuP_2, zuP_3, zuC_1, zuC_2, reduceIte, Nat.reduceEqDiff, false_and, and_false, true_and, and_true, and_self, or_true, true_or, or_false, false_or]; omega))) (zwk_s rfl (zwk_s rfl (zwk_s rfl (zwk_s rfl (zwk_n (zwk_n zwk_0))))))
                exact zs_wk (L39 _ _ _ (by omega) (by repeat (first | exact zsm_rf | assumption | refine zsm_C (by decide) ?_ | refine zsm_I (by decide) ?_ | refine zsm_J ?_ | refine zsm_c (by assumption) (by decide) ?_)) (fun i hi => absurd hi (by omega)) (by first | omega | rfl | (simp only [zuI_1, zuI_2, zuJ_1, zuJ_2, zuJ_3, zuP_1, zuP_2, zuP_3, zuC_1, zuC_2, reduceIte, Nat.reduceEqDiff, false_and, and_false, true_and, and_true, and_self, or_true, true_or, or_false, false_or]; done) | (simp only [zuI_1, zuI_2, zuJ_1, zuJ_2, zuJ_3, zuP_1, zuP_2, zuP_3, zuC_1, zuC_2, reduceIte, Nat.reduceEqDiff, false_and, and_false, true_and, and_true, and_self, or_true, true_or, or_false, false_or]; omega)) (Nat.lt_succ_self _)) (zwk_s rfl (zwk_s rfl (zwk_s rfl (zwk_s rfl (zwk_n (zwk_n zwk_0))))))
  exact zs_wk (L7 _ _ _ (by first | omega | (simp only [zuI_1, zuI_2, zuJ_1, zuJ_2, zuJ_3, zuP_1, zuP_2, zuP_3, zuC_1, zuC_2, reduceIte, Nat.reduceEqDiff, false_and, and_false, true_and, and_true, and_self, or_true, true_or, or_false, false_or]; omega)) (by repeat (first | exact zsm_rf | assumption | refine zsm_C (by decide) ?_ | refine zsm_I (by decide) ?_ | refine zsm_J ?_ | refine zsm_c (by assumption) (by decide) ?_)) (by first | omega | rfl | (simp only [zuI_1, zuI_2, zuJ_1, zuJ_2, zuJ_3, zuP_1, zuP_2, zuP_3, zuC_1, zuC_2, reduceIte, Nat.reduceEqDiff, false_and, and_false, true_and, and_true, and_self, or_true, true_or, or_false, false_or]; done) | (simp only [zuI_1, zuI_2, zuJ_1, zuJ_2, zuJ_3, zuP_1, zuP_2, zuP_3, zuC_1, zuC_2, reduceIte, Nat.reduceEqDiff, false_and, and_false, true_and, and_true, and_self, or_true, true_or, or_false, false_or]; omega)) (Nat.lt_succ_self _)) (zwk_s rfl (zwk_s rfl (zwk_s rfl (zwk_n (zwk_n (zwk_n zwk_0))))))

set_option maxHeartbeats 4000000 in
set_option maxRecDepth 100000 in
theorem c_X9_planE {l : Launch} {Γ : zΓ} {G : zH} {w : Nat} {a b : Int} (hX : zXs Γ) (hM : MI Γ w G) : zMet l Γ yX9_plan cX9_plan 3 (some .int) 8 [zr 10 w, zi a, zi b] G (zpi (fun x G' => zsm [2091, 2092, 2093, 2094, 2095, 2096, 2097, 2098, 2099, 2100, 2088, 2087, 2082, 2084, 2083, 2089, 1050, 2081, 2085, 2086, 2090, 1072, 1073, 1074, 2101, 2102, 1078, 1079, 1002] G G' ∧ (G'.1 2090 (Γ.2.1 w 60) (0 : Int).toNat = G.1 2090 (Γ.2.1 w 60) (0 : Int).toNat))) := by
  refine zMet_of RX9 hX (by decide) rfl (Nat.le_of_ble_eq_true rfl) ?_
  intro p e s m args below meth c C hr hlk
  show Z p l e (zrm 8) s m args below meth c Γ 3 0 0 (MQ below (zQc Γ (zpi (fun x G' => zsm [2091, 2092, 2093, 2094, 2095, 2096, 2097, 2098, 2099, 2100, 2088, 2087, 2082, 2084, 2083, 2089, 1050, 2081, 2085, 2086, 2090, 1072, 1073, 1074, 2101, 2102, 1078, 1079, 1002] G G' ∧ (G'.1 2090 (Γ.2.1 w 60) (0 : Int).toNat = G.1 2090 (Γ.2.1 w 60) (0 : Int).toNat)))) args s 0 0 (zA Γ)) 0 [some (zr 10 w), some (zi a), some (zi b)] [] G
  refine zs_loc 1 rfl (fun ha1 hb1 => ?_)
  refine zs_loc 2 rfl (fun ha2 hb2 => ?_)
  refine zs_aload_n (pc := 0) C dX9_plan_0 rfl ?_
  refine zs_iconst (pc := 1) C dX9_plan_1 (by decide) ?_
  refine zs_puti (r := 1002) (pc := 2) C dX9_plan_2 w_X9_178 f_10_2 rfl (r_1002 0) (by omega) ?_
  refine zs_aload_n (pc := 5) C dX9_plan_5 rfl ?_
  refine zs_iload_n (pc := 6) C dX9_plan_6 rfl ?_
  refine zVip1 (pc := 7) C dX9_plan_7 v_X9_471 (c_X9_isCake hX ) (by decide) (by decide) ⟨Nat.zero_le _, Nat.zero_le _⟩ (Nat.le_of_ble_eq_true rfl) (fun x7 l7 u7 hp7 => ?_)
  have hq7 := hp7
  try simp only [zuI_1, zuI_2, zuJ_1, zuJ_2, zuJ_3, zuP_1, zuP_2, zuP_3, zuC_1, zuC_2, reduceIte, Nat.reduceEqDiff, false_and, and_false, true_and, and_true, and_self, or_true, true_or, or_false, false_or] at hq7
  refine zs_if_eq (tgt := 31) (pc := 10) C dX9_plan_10 (by decide) (fun h10 => ?_) (fun h10 => ?_)
  · skip
    refine zs_iconst (pc := 31) C dX9_plan_31 (by decide) ?_
    exact zs_iret (pc := 32) C hr hlk dX9_plan_32 ⟨by repeat (first | exact zsm_rf | assumption | refine zsm_C (by decide) ?_ | refine zsm_I (by decide) ?_ | refine zsm_J ?_ | refine zsm_c (by assumption) (by decide) ?_), (by first | omega | rfl | (simp only [zuI_1, zuI_2, zuJ_1, zuJ_2, zuJ_3, zuP_1, zuP_2, zuP_3, zuC_1, zuC_2, reduceIte, Nat.reduceEqDiff, false_and, and_false, true_and, and_true, and_self, or_true, true_or, or_false, false_or]; done) | (simp only [zuI_1, zuI_2, zuJ_1, zuJ_2, zuJ_3, zuP_1, zuP_2, zuP_3, zuC_1, zuC_2, reduceIte, Nat.reduceEqDiff, false_and, and_false, true_and, and_true, and_self, or_true, true_or, or_false, false_or]; omega))⟩
  · skip
    refine zs_aload_n (pc := 13) C dX9_plan_13 rfl ?_
    refine zs_getf (pc := 14) C dX9_plan_14 w_X9_103 f_10_56 (by decide) ?_
    refine zs_iload_n (pc := 17) C dX9_plan_17 rfl ?_
    refine zs_iald (r := 2086) (pc := 18) C dX9_plan_18 a_86 (by decide) (by omega) rfl (r_2086 _) (fun v18 e18 l18 u18 => ?_)
    try simp only [zuI_1, zuI_2, zuJ_1, zuJ_2, zuJ_3, zuP_1, zuP_2, zuP_3, zuC_1, zuC_2, reduceIte, Nat.reduceEqDiff, false_and, and_false, true_and, and_true, and_self, or_true, true_or, or_false, false_or] at e18
    refine zs_if_ge (tgt := 31) (pc := 19) C dX9_plan_19 (by decide) (fun h19 => ?_) (fun h19 => ?_)
    · skip
      refine zs_iconst (pc := 31) C dX9_plan_31 (by decide) ?_
      exact zs_iret (pc := 32) C hr hlk dX9_plan_32 ⟨by repeat (first | exact zsm_rf | assumption | refine zsm_C (by decide) ?_ | refine zsm_I (by decide) ?_ | refine zsm_J ?_ | refine zsm_c (by assumption) (by decide) ?_), (by first | omega | rfl | (simp only [zuI_1, zuI_2, zuJ_1, zuJ_2, zuJ_3, zuP_1, zuP_2, zuP_3, zuC_1, zuC_2, reduceIte, Nat.reduceEqDiff, false_and, and_false, true_and, and_true, and_self, or_true, true_or, or_false, false_or]; done) | (simp only [zuI_1, zuI_2, zuJ_1, zuJ_2, zuJ_3, zuP_1, zuP_2, zuP_3, zuC_1, zuC_2, reduceIte, Nat.reduceEqDiff, false_and, and_false, true_and, and_true, and_self, or_true, true_or, or_false, false_or]; omega))⟩
    · skip
      refine zs_iload_n (pc := 22) C dX9_plan_22 rfl ?_
      refine zs_iconst (pc := 23) C dX9_plan_23 (by decide) ?_
      refine zs_iconst (pc := 24) C dX9_plan_24 (by decide) ?_
      refine zSip3 (pc := 25) C dX9_plan_25 s_X9_223 (c_X9_isIn hX ) (by decide) ⟨Nat.zero_le _, Nat.zero_le _⟩ (Nat.le_of_ble_eq_true rfl) (fun x25 l25 u25 hp25 => ?_)
      have hq25 := hp25
      try simp only [zuI_1, zuI_2, zuJ_1, zuJ_2, zuJ_3, zuP_1, zuP_2, zuP_3, zuC_1, zuC_2, reduceIte, Nat.reduceEqDiff, false_and, and_false, true_and, and_true, and_self, or_true, true_or, or_false, false_or] at hq25
      refine zs_if_ne (tgt := 33) (pc := 28) C dX9_plan_28 (by decide) (fun h28 => ?_) (fun h28 => ?_)
      · skip
        refine zs_aload_n (pc := 33) C dX9_plan_33 rfl ?_
        refine zs_iload_n (pc := 34) C dX9_plan_34 rfl ?_
        refine zVv1 (pc := 35) C dX9_plan_35 v_X9_513 (c_X9_layPlanE hX (by repeat (first | assumption | refine MI_I (by decide) ?_ | refine MI_J ?_ | refine MI_sm (by assumption) (by decide) ?_ | refine MI_sn (by assumption) (by decide) ?_)) (by first | omega | (simp only [zuI_1, zuI_2, zuJ_1, zuJ_2, zuJ_3, zuP_1, zuP_2, zuP_3, zuC_1, zuC_2, reduceIte, Nat.reduceEqDiff, false_and, and_false, true_and, and_true, and_self, or_true, true_or, or_false, false_or]; omega))) (by decide) (by decide) ⟨Nat.zero_le _, Nat.zero_le _⟩ (Nat.le_of_ble_eq_true rfl) (fun G35 hp35 => ?_)
        obtain ⟨hz35, hq35⟩ := hp35
        try simp only [zuI_1, zuI_2, zuJ_1, zuJ_2, zuJ_3, zuP_1, zuP_2, zuP_3, zuC_1, zuC_2, reduceIte, Nat.reduceEqDiff, false_and, and_false, true_and, and_true, and_self, or_true, true_or, or_false, false_or] at hq35
        refine zs_aload_n (pc := 38) C dX9_plan_38 rfl ?_
        refine zs_geti (r := 1078) (pc := 39) C dX9_plan_39 w_X9_501 f_10_78 rfl (r_1078 0) (fun v39 e39 l39 u39 => ?_)
        refine zs_if_ge (tgt := 50) (pc := 42) C dX9_plan_42 (by decide) (fun h42 => ?_) (fun h42 => ?_)
        · skip
          refine zs_iload_n (pc := 50) C dX9_plan_50 rfl ?_
          refine zs_if_ne (tgt := 61) (pc := 51) C dX9_plan_51 (by decide) (fun h51 => ?_) (fun h51 => ?_)
          · skip
            refine zs_aload_n (pc := 61) C dX9_plan_61 rfl ?_
            refine zs_geti (r := 1079) (pc := 62) C dX9_plan_62 w_X9_507 f_10_79 rfl (r_1079 0) (fun v62 e62 l62 u62 => ?_)
            exact zs_iret (pc := 65) C hr hlk dX9_plan_65 ⟨by repeat (first | exact zsm_rf | assumption | refine zsm_C (by decide) ?_ | refine zsm_I (by decide) ?_ | refine zsm_J ?_ | refine zsm_c (by assumption) (by decide) ?_), (by first | omega | rfl | (simp only [zuI_1, zuI_2, zuJ_1, zuJ_2, zuJ_3, zuP_1, zuP_2, zuP_3, zuC_1, zuC_2, reduceIte, Nat.reduceEqDiff, false_and, and_false, true_and, and_true, and_self, or_true, true_or, or_false, false_or]; done) | (simp only [zuI_1, zuI_2, zuJ_1, zuJ_2, zuJ_3, zuP_1, zuP_2, zuP_3, zuC_1, zuC_2, reduceIte, Nat.reduceEqDiff, false_and, and_false, true_and, and_true, and_self, or_true, true_or, or_false, false_or]; omega))⟩
          · skip
            refine zs_aload_n (pc := 54) C dX9_plan_54 rfl ?_
            refine zs_geti (r := 1078) (pc := 55) C dX9_plan_55 w_X9_501 f_10_78 rfl (r_1078 0) (fun v55 e55 l55 u55 => ?_)
            refine zs_goto (tgt := 65) (pc := 58) C dX9_plan_58 (by decide) ?_
            exact zs_iret (pc := 65) C hr hlk dX9_plan_65 ⟨by repeat (first | exact zsm_rf | assumption | refine zsm_C (by decide) ?_ | refine zsm_I (by decide) ?_ | refine zsm_J ?_ | refine zsm_c (by assumption) (by decide) ?_), (by first | omega | rfl | (simp only [zuI_1, zuI_2, zuJ_1, zuJ_2, zuJ_3, zuP_1, zuP_2, zuP_3, zuC_1, zuC_2, reduceIte, Nat.reduceEqDiff, false_and, and_false, true_and, and_true, and_self, or_true, true_or, or_false, false_or]; done) | (simp only [zuI_1, zuI_2, zuJ_1, zuJ_2, zuJ_3, zuP_1, zuP_2, zuP_3, zuC_1, zuC_2, reduceIte, Nat.reduceEqDiff, false_and, and_false, true_and, and_true, and_self, or_true, true_or, or_false, false_or]; omega))⟩
        · skip
          refine zs_bipush (pc := 45) C dX9_plan_45 (by decide) (by decide) ?_
          refine zs_goto (tgt := 65) (pc := 47) C dX9_plan_47 (by decide) ?_
          exact zs_iret (pc := 65) C hr hlk dX9_plan_65 ⟨by repeat (first | exact zsm_rf | assumption | refine zsm_C (by decide) ?_ | refine zsm_I (by decide) ?_ | refine zsm_J ?_ | refine zsm_c (by assumption) (by decide) ?_), (by first | omega | rfl | (simp only [zuI_1, zuI_2, zuJ_1, zuJ_2, zuJ_3, zuP_1, zuP_2, zuP_3, zuC_1, zuC_2, reduceIte, Nat.reduceEqDiff, false_and, and_false, true_and, and_true, and_self, or_true, true_or, or_false, false_or]; done) | (simp only [zuI_1, zuI_2, zuJ_1, zuJ_2, zuJ_3, zuP_1, zuP_2, zuP_3, zuC_1, zuC_2, reduceIte, Nat.reduceEqDiff, false_and, and_false, true_and, and_true, and_self, or_true, true_or, or_false, false_or]; omega))⟩
      · skip
        refine zs_iconst (pc := 31) C dX9_plan_31 (by decide) ?_
        exact zs_iret (pc := 32) C hr hlk dX9_plan_32 ⟨by repeat (first | exact zsm_rf | assumption | refine zsm_C (by decide) ?_ | refine zsm_I (by decide) ?_ | refine zsm_J ?_ | refine zsm_c (by assumption) (by decide) ?_), (by first | omega | rfl | (simp only [zuI_1, zuI_2, zuJ_1, zuJ_2, zuJ_3, zuP_1, zuP_2, zuP_3, zuC_1, zuC_2, reduceIte, Nat.reduceEqDiff, false_and, and_false, true_and, and_true, and_self, or_true, true_or, or_false, false_or]; done) | (simp only [zuI_1, zuI_2, zuJ_1, zuJ_2, zuJ_3, zuP_1, zuP_2, zuP_3, zuC_1, zuC_2, reduceIte, Nat.reduceEqDiff, false_and, and_false, true_and, and_true, and_self, or_true, true_or, or_false, false_or]; omega))⟩

set_option maxHeartbeats 4000000 in
set_option maxRecDepth 100000 in
theorem c_X9_plannedE {l : Launch} {Γ : zΓ} {G : zH} {w : Nat} {a b q : Int} (hX : zXs Γ) (hM : MI Γ w G) : zMet l Γ yX9_planned cX9_planned 4 (some .int) 8 [zr 10 w, zi a, zi b, zi q] G (zpi (fun x G' => zsm [2091, 2092, 2093, 2094, 2095, 2096, 2097, 2098, 2099, 2100, 2088, 2087, 2082, 2084, 2083, 2089, 1050, 2081, 2085, 2086, 2090, 1072, 1073, 1074, 2101, 2102, 1078, 1079, 1002] G G' ∧ (G'.1 2090 (Γ.2.1 w 60) (0 : Int).toNat = G.1 2090 (Γ.2.1 w 60) (0 : Int).toNat))) := by
  refine zMet_of RX9 hX (by decide) rfl (Nat.le_of_ble_eq_true rfl) ?_
  intro p e s m args below meth c C hr hlk
  show Z p l e (zrm 8) s m args below meth c Γ 4 0 0 (MQ below (zQc Γ (zpi (fun x G' => zsm [2091, 2092, 2093, 2094, 2095, 2096, 2097, 2098, 2099, 2100, 2088, 2087, 2082, 2084, 2083, 2089, 1050, 2081, 2085, 2086, 2090, 1072, 1073, 1074, 2101, 2102, 1078, 1079, 1002] G G' ∧ (G'.1 2090 (Γ.2.1 w 60) (0 : Int).toNat = G.1 2090 (Γ.2.1 w 60) (0 : Int).toNat)))) args s 0 0 (zA Γ)) 0 [some (zr 10 w), some (zi a), some (zi b), some (zi q)] [] G
  refine zs_loc 1 rfl (fun ha1 hb1 => ?_)
  refine zs_loc 2 rfl (fun ha2 hb2 => ?_)
  refine zs_loc 3 rfl (fun ha3 hb3 => ?_)
  refine zs_aload_n (pc := 0) C dX9_planned_0 rfl ?_
  refine zs_iconst (pc := 1) C dX9_planned_1 (by decide) ?_
  refine zs_puti (r := 1002) (pc := 2) C dX9_planned_2 w_X9_178 f_10_2 rfl (r_1002 0) (by omega) ?_
  refine zs_aload_n (pc := 5) C dX9_planned_5 rfl ?_
  refine zs_iload_n (pc := 6) C dX9_planned_6 rfl ?_
  refine zVip1 (pc := 7) C dX9_planned_7 v_X9_471 (c_X9_isCake hX ) (by decide) (by decide) ⟨Nat.zero_le _, Nat.zero_le _⟩ (Nat.le_of_ble_eq_true rfl) (fun x7 l7 u7 hp7 => ?_)
  have hq7 := hp7
  try simp only [zuI_1, zuI_2, zuJ_1, zuJ_2, zuJ_3, zuP_1, zuP_2, zuP_3, zuC_1, zuC_2, reduceIte, Nat.reduceEqDiff, false_and, and_false, true_and, and_true, and_self, or_true, true_or, or_false, false_or] at hq7
  refine zs_if_eq (tgt := 35) (pc := 10) C dX9_planned_10 (by decide) (fun h10 => ?_) (fun h10 => ?_)
  · skip
    refine zs_iconst (pc := 35) C dX9_planned_35 (by decide) ?_
    exact zs_iret (pc := 36) C hr hlk dX9_planned_36 ⟨by repeat (first | exact zsm_rf | assumption | refine zsm_C (by decide) ?_ | refine zsm_I (by decide) ?_ | refine zsm_J ?_ | refine zsm_c (by assumption) (by decide) ?_), (by first | omega | rfl | (simp only [zuI_1, zuI_2, zuJ_1, zuJ_2, zuJ_3, zuP_1, zuP_2, zuP_3, zuC_1, zuC_2, reduceIte, Nat.reduceEqDiff, false_and, and_false, true_and, and_true, and_self, or_true, true_or, or_false, false_or]; done) | (simp only [zuI_1, zuI_2, zuJ_1, zuJ_2, zuJ_3, zuP_1, zuP_2, zuP_3, zuC_1, zuC_2, reduceIte, Nat.reduceEqDiff, false_and, and_false, true_and, and_true, and_self, or_true, true_or, or_false, false_or]; omega))⟩
  · skip
    refine zs_aload_n (pc := 13) C dX9_planned_13 rfl ?_
    refine zs_getf (pc := 14) C dX9_planned_14 w_X9_103 f_10_56 (by decide) ?_
    refine zs_iload_n (pc := 17) C dX9_planned_17 rfl ?_
    refine zs_iald (r := 2086) (pc := 18) C dX9_planned_18 a_86 (by decide) (by omega) rfl (r_2086 _) (fun v18 e18 l18 u18 => ?_)
    try simp only [zuI_1, zuI_2, zuJ_1, zuJ_2, zuJ_3, zuP_1, zuP_2, zuP_3, zuC_1, zuC_2, reduceIte, Nat.reduceEqDiff, false_and, and_false, true_and, and_true, and_self, or_true, true_or, or_false, false_or] at e18
    refine zs_if_ge (tgt := 35) (pc := 19) C dX9_planned_19 (by decide) (fun h19 => ?_) (fun h19 => ?_)
    · skip
      refine zs_iconst (pc := 35) C dX9_planned_35 (by decide) ?_
      exact zs_iret (pc := 36) C hr hlk dX9_planned_36 ⟨by repeat (first | exact zsm_rf | assumption | refine zsm_C (by decide) ?_ | refine zsm_I (by decide) ?_ | refine zsm_J ?_ | refine zsm_c (by assumption) (by decide) ?_), (by first | omega | rfl | (simp only [zuI_1, zuI_2, zuJ_1, zuJ_2, zuJ_3, zuP_1, zuP_2, zuP_3, zuC_1, zuC_2, reduceIte, Nat.reduceEqDiff, false_and, and_false, true_and, and_true, and_self, or_true, true_or, or_false, false_or]; done) | (simp only [zuI_1, zuI_2, zuJ_1, zuJ_2, zuJ_3, zuP_1, zuP_2, zuP_3, zuC_1, zuC_2, reduceIte, Nat.reduceEqDiff, false_and, and_false, true_and, and_true, and_self, or_true, true_or, or_false, false_or]; omega))⟩
    · skip
      refine zs_iload_n (pc := 22) C dX9_planned_22 rfl ?_
      refine zs_if_lt (tgt := 35) (pc := 23) C dX9_planned_23 (by decide) (fun h23 => ?_) (fun h23 => ?_)
      · skip
        refine zs_iconst (pc := 35) C dX9_planned_35 (by decide) ?_
        exact zs_iret (pc := 36) C hr hlk dX9_planned_36 ⟨by repeat (first | exact zsm_rf | assumption | refine zsm_C (by decide) ?_ | refine zsm_I (by decide) ?_ | refine zsm_J ?_ | refine zsm_c (by assumption) (by decide) ?_), (by first | omega | rfl | (simp only [zuI_1, zuI_2, zuJ_1, zuJ_2, zuJ_3, zuP_1, zuP_2, zuP_3, zuC_1, zuC_2, reduceIte, Nat.reduceEqDiff, false_and, and_false, true_and, and_true, and_self, or_true, true_or, or_false, false_or]; done) | (simp only [zuI_1, zuI_2, zuJ_1, zuJ_2, zuJ_3, zuP_1, zuP_2, zuP_3, zuC_1, zuC_2, reduceIte, Nat.reduceEqDiff, false_and, and_false, true_and, and_true, and_self, or_true, true_or, or_false, false_or]; omega))⟩
      · skip
        refine zs_iload_n (pc := 26) C dX9_planned_26 rfl ?_
        refine zs_iconst (pc := 27) C dX9_planned_27 (by decide) ?_
        refine zs_iconst (pc := 28) C dX9_planned_28 (by decide) ?_
        refine zSip3 (pc := 29) C dX9_planned_29 s_X9_223 (c_X9_isIn hX ) (by decide) ⟨Nat.zero_le _, Nat.zero_le _⟩ (Nat.le_of_ble_eq_true rfl) (fun x29 l29 u29 hp29 => ?_)
        have hq29 := hp29
        try simp only [zuI_1, zuI_2, zuJ_1, zuJ_2, zuJ_3, zuP_1, zuP_2, zuP_3, zuC_1, zuC_2, reduceIte, Nat.reduceEqDiff, false_and, and_false, true_and, and_true, and_self, or_true, true_or, or_false, false_or] at hq29
        refine zs_if_ne (tgt := 37) (pc := 32) C dX9_planned_32 (by decide) (fun h32 => ?_) (fun h32 => ?_)
        · skip
          refine zs_aload_n (pc := 37) C dX9_planned_37 rfl ?_
          refine zs_iload_n (pc := 38) C dX9_planned_38 rfl ?_
          refine zVv1 (pc := 39) C dX9_planned_39 v_X9_513 (c_X9_layPlanE hX (by repeat (first | assumption | refine MI_I (by decide) ?_ | refine MI_J ?_ | refine MI_sm (by assumption) (by decide) ?_ | refine MI_sn (by assumption) (by decide) ?_)) (by first | omega | (simp only [zuI_1, zuI_2, zuJ_1, zuJ_2, zuJ_3, zuP_1, zuP_2, zuP_3, zuC_1, zuC_2, reduceIte, Nat.reduceEqDiff, false_and, and_false, true_and, and_true, and_self, or_true, true_or, or_false, false_or]; omega))) (by decide) (by decide) ⟨Nat.zero_le _, Nat.zero_le _⟩ (Nat.le_of_ble_eq_true rfl) (fun G39 hp39 => ?_)
          obtain ⟨hz39, hq39⟩ := hp39
          try simp only [zuI_1, zuI_2, zuJ_1, zuJ_2, zuJ_3, zuP_1, zuP_2, zuP_3, zuC_1, zuC_2, reduceIte, Nat.reduceEqDiff, false_and, and_false, true_and, and_true, and_self, or_true, true_or, or_false, false_or] at hq39
          refine zs_aload_n (pc := 42) C dX9_planned_42 rfl ?_
          refine zs_geti (r := 1078) (pc := 43) C dX9_planned_43 w_X9_501 f_10_78 rfl (r_1078 0) (fun v43 e43 l43 u43 => ?_)
          refine zs_if_lt (tgt := 57) (pc := 46) C dX9_planned_46 (by decide) (fun h46 => ?_) (fun h46 => ?_)
          · skip
            refine zs_bipush (pc := 57) C dX9_planned_57 (by decide) (by decide) ?_
            exact zs_iret (pc := 59) C hr hlk dX9_planned_59 ⟨by repeat (first | exact zsm_rf | assumption | refine zsm_C (by decide) ?_ | refine zsm_I (by decide) ?_ | refine zsm_J ?_ | refine zsm_c (by assumption) (by decide) ?_), (by first | omega | rfl | (simp only [zuI_1, zuI_2, zuJ_1, zuJ_2, zuJ_3, zuP_1, zuP_2, zuP_3, zuC_1, zuC_2, reduceIte, Nat.reduceEqDiff, false_and, and_false, true_and, and_true, and_self, or_true, true_or, or_false, false_or]; done) | (simp only [zuI_1, zuI_2, zuJ_1, zuJ_2, zuJ_3, zuP_1, zuP_2, zuP_3, zuC_1, zuC_2, reduceIte, Nat.reduceEqDiff, false_and, and_false, true_and, and_true, and_self, or_true, true_or, or_false, false_or]; omega))⟩
          · skip
            refine zs_iload_n (pc := 49) C dX9_planned_49 rfl ?_
            refine zs_aload_n (pc := 50) C dX9_planned_50 rfl ?_
            refine zs_geti (r := 1079) (pc := 51) C dX9_planned_51 w_X9_507 f_10_79 rfl (r_1079 0) (fun v51 e51 l51 u51 => ?_)
            refine zs_icmp_lt (tgt := 60) (pc := 54) C dX9_planned_54 (by decide) (fun h54 => ?_) (fun h54 => ?_)
            · skip
              refine zs_iload_n (pc := 60) C dX9_planned_60 rfl ?_
              refine zs_if_ne (tgt := 75) (pc := 61) C dX9_planned_61 (by decide) (fun h61 => ?_) (fun h61 => ?_)
              · skip
                refine zs_aload_n (pc := 75) C dX9_planned_75 rfl ?_
                refine zs_getf (pc := 76) C dX9_planned_76 w_X9_154 f_10_77 (by decide) ?_
                refine zs_iload_n (pc := 79) C dX9_planned_79 rfl ?_
                refine zs_iald (r := 2102) (pc := 80) C dX9_planned_80 a_102 (by decide) (by omega) rfl (r_2102 _) (fun v80 e80 l80 u80 => ?_)
                refine zs_iconst (pc := 81) C dX9_planned_81 (by decide) ?_
                first | refine zs_irem (pc := 82) C dX9_planned_82 (by omega) (by omega) (fun hz821 hz822 => ?_) | refine zs_iremF (pc := 82) C dX9_planned_82 (by omega) (fun z82 hz821 hz822 => ?_)
                exact zs_iret (pc := 83) C hr hlk dX9_planned_83 ⟨by repeat (first | exact zsm_rf | assumption | refine zsm_C (by decide) ?_ | refine zsm_I (by decide) ?_ | refine zsm_J ?_ | refine zsm_c (by assumption) (by decide) ?_), (by first | omega | rfl | (simp only [zuI_1, zuI_2, zuJ_1, zuJ_2, zuJ_3, zuP_1, zuP_2, zuP_3, zuC_1, zuC_2, reduceIte, Nat.reduceEqDiff, false_and, and_false, true_and, and_true, and_self, or_true, true_or, or_false, false_or]; done) | (simp only [zuI_1, zuI_2, zuJ_1, zuJ_2, zuJ_3, zuP_1, zuP_2, zuP_3, zuC_1, zuC_2, reduceIte, Nat.reduceEqDiff, false_and, and_false, true_and, and_true, and_self, or_true, true_or, or_false, false_or]; omega))⟩
              · skip
                refine zs_aload_n (pc := 64) C dX9_planned_64 rfl ?_
                refine zs_getf (pc := 65) C dX9_planned_65 w_X9_154 f_10_77 (by decide) ?_
                refine zs_iload_n (pc := 68) C dX9_planned_68 rfl ?_
                refine zs_iald (r := 2102) (pc := 69) C dX9_planned_69 a_102 (by decide) (by omega) rfl (r_2102 _) (fun v69 e69 l69 u69 => ?_)
                refine zs_iconst (pc := 70) C dX9_planned_70 (by decide) ?_
                first | refine zs_idiv (pc := 71) C dX9_planned_71 (by omega) (by omega) (fun hz711 hz712 => ?_) | refine zs_idivF (pc := 71) C dX9_planned_71 (by omega) (fun z71 hz711 hz712 => ?_)
                refine zs_goto (tgt := 83) (pc := 72) C dX9_planned_72 (by decide) ?_
                exact zs_iret (pc := 83) C hr hlk dX9_planned_83 ⟨by repeat (first | exact zsm_rf | assumption | refine zsm_C (by decide) ?_ | refine zsm_I (by decide) ?_ | refine zsm_J ?_ | refine zsm_c (by assumption) (by decide) ?_), (by first | omega | rfl | (simp only [zuI_1, zuI_2, zuJ_1, zuJ_2, zuJ_3, zuP_1, zuP_2, zuP_3, zuC_1, zuC_2, reduceIte, Nat.reduceEqDiff, false_and, and_false, true_and, and_true, and_self, or_true, true_or, or_false, false_or]; done) | (simp only [zuI_1, zuI_2, zuJ_1, zuJ_2, zuJ_3, zuP_1, zuP_2, zuP_3, zuC_1, zuC_2, reduceIte, Nat.reduceEqDiff, false_and, and_false, true_and, and_true, and_self, or_true, true_or, or_false, false_or]; omega))⟩
            · skip
              refine zs_bipush (pc := 57) C dX9_planned_57 (by decide) (by decide) ?_
              exact zs_iret (pc := 59) C hr hlk dX9_planned_59 ⟨by repeat (first | exact zsm_rf | assumption | refine zsm_C (by decide) ?_ | refine zsm_I (by decide) ?_ | refine zsm_J ?_ | refine zsm_c (by assumption) (by decide) ?_), (by first | omega | rfl | (simp only [zuI_1, zuI_2, zuJ_1, zuJ_2, zuJ_3, zuP_1, zuP_2, zuP_3, zuC_1, zuC_2, reduceIte, Nat.reduceEqDiff, false_and, and_false, true_and, and_true, and_self, or_true, true_or, or_false, false_or]; done) | (simp only [zuI_1, zuI_2, zuJ_1, zuJ_2, zuJ_3, zuP_1, zuP_2, zuP_3, zuC_1, zuC_2, reduceIte, Nat.reduceEqDiff, false_and, and_false, true_and, and_true, and_self, or_true, true_or, or_false, false_or]; omega))⟩
        · skip
          refine zs_iconst (pc := 35) C dX9_planned_35 (by decide) ?_
          exact zs_iret (pc := 36) C hr hlk dX9_planned_36 ⟨by repeat (first | exact zsm_rf | assumption | refine zsm_C (by decide) ?_ | refine zsm_I (by decide) ?_ | refine zsm_J ?_ | refine zsm_c (by assumption) (by decide) ?_), (by first | omega | rfl | (simp only [zuI_1, zuI_2, zuJ_1, zuJ_2, zuJ_3, zuP_1, zuP_2, zuP_3, zuC_1, zuC_2, reduceIte, Nat.reduceEqDiff, false_and, and_false, true_and, and_true, and_self, or_true, true_or, or_false, false_or]; done) | (simp only [zuI_1, zuI_2, zuJ_1, zuJ_2, zuJ_3, zuP_1, zuP_2, zuP_3, zuC_1, zuC_2, reduceIte, Nat.reduceEqDiff, false_and, and_false, true_and, and_true, and_self, or_true, true_or, or_false, false_or]; omega))⟩
