theorem lowU {G : zH} {r a : Nat} {x3 y : Int} (h : ∀ i : Nat, (i : Int) < x3 → G.1 r a i ≤ 19) (h0 : 0 ≤ x3) (hy : y ≤ 19) : ∀ i : Nat, (i : Int) < x3 + 1 → (zuI G r a x3.toNat y).1 r a i ≤ 19 := by
  intro i hi
  rw [zuI_1]
  by_cases q : i = x3.toNat
  · rw [if_pos ⟨rfl, rfl, q⟩]; exact hy
  · rw [if_neg (fun z => q z.2.2)]; exact h i (by omega)
def lpm (x z : Int) : Nat := if x = 0 then 0 else (390626 - z).toNat
theorem lpm_s0 {x z z' : Int} {nn : Nat} (hm : lpm x z < nn + 1) (h : x ≠ 0) (hz : z ≤ 390625) : lpm 0 z' < nn := by
  unfold lpm at hm ⊢
  rw [if_neg h] at hm
  rw [if_pos rfl]
  omega
theorem lpm_s1 {x z z' : Int} {nn : Nat} (hm : lpm x z < nn + 1) (h : x ≠ 0) (hz : z < z') (hz2 : z' ≤ 390625) : lpm 1 z' < nn := by
  unfold lpm at hm ⊢
  rw [if_neg h] at hm
  rw [if_neg (by decide)]
  omega
theorem zod4_b {f : Nat → Int} (hf : ∀ i, 0 ≤ f i ∧ f i ≤ 24) : zod 25 f 4 ≤ 390625 := by
  rw [zod4]
  have f0 := hf 0; have f1 := hf 1; have f2 := hf 2; have f3 := hf 3
  omega
theorem row24 {Γ : zΓ} {G : zH} (hG : zG Γ G) (a : Nat) : ∀ i, 0 ≤ G.1 2101 a i ∧ G.1 2101 a i ≤ 24 := fun i => by
  have := hG.1 2101 a i
  rw [r_2101] at this
  exact this

set_option maxHeartbeats 4000000 in
set_option maxRecDepth 100000 in
theorem c_X9_wantOf {l : Launch} {Γ : zΓ} {G : zH} {w : Nat} {b0 p0 s0 : Int} (hX : zXs Γ) (hM : MI Γ w G)(hb : b0 = 0 ∨ b0 = 1)(hp : 0 ≤ p0 ∧ p0 ≤ 4)(hs : 0 ≤ s0 ∧ s0 ≤ 3) : zMet l Γ yX9_wantOf cX9_wantOf 4 (some .long) 3 [zr 10 w, zi b0, zi p0, zi s0] G (zpj (fun x G' => zsm [1050] G G' ∧ True)) := by
  refine zMet_of RX9 hX (by decide) rfl (Nat.le_of_ble_eq_true rfl) ?_
  intro p e s m args below meth c C hr hlk
  show Z p l e (zrm 3) s m args below meth c Γ 4 0 0 (MQ below (zQc Γ (zpj (fun x G' => zsm [1050] G G' ∧ True))) args s 0 0 (zA Γ)) 0 [some (zr 10 w), some (zi b0), some (zi p0), some (zi s0)] [] G
  refine zs_loc 1 rfl (fun ha1 hb1 => ?_)
  refine zs_loc 2 rfl (fun ha2 hb2 => ?_)
  refine zs_loc 3 rfl (fun ha3 hb3 => ?_)
  refine zs_aload_n (pc := 0) C dX9_wantOf_0 rfl ?_
  refine zs_geti (r := 1074) (pc := 1) C dX9_wantOf_1 w_X9_148 f_10_74 rfl (r_1074 0) (fun v1 e1 l1 u1 => ?_)
  refine zs_iconst (pc := 4) C dX9_wantOf_4 (by decide) ?_
  refine zs_icmp_ne (tgt := 20) (pc := 5) C dX9_wantOf_5 (by decide) (fun h5 => ?_) (fun h5 => ?_)
  · skip
    refine zs_aload_n (pc := 20) C dX9_wantOf_20 rfl ?_
    refine zs_geti (r := 1074) (pc := 21) C dX9_wantOf_21 w_X9_148 f_10_74 rfl (r_1074 0) (fun v21 e21 l21 u21 => ?_)
    refine zs_iconst (pc := 24) C dX9_wantOf_24 (by decide) ?_
    refine zs_icmp_eq (tgt := 37) (pc := 25) C dX9_wantOf_25 (by decide) (fun h25 => ?_) (fun h25 => ?_)
    · skip
      refine zs_aload_n (pc := 37) C dX9_wantOf_37 rfl ?_
      refine zs_getf (pc := 38) C dX9_wantOf_38 w_X9_30 f_10_25 (by decide) ?_
      refine zs_iload_n (pc := 41) C dX9_wantOf_41 rfl ?_
      refine zs_iald (r := 2062) (pc := 42) C dX9_wantOf_42 a_62 (by decide) (by omega) rfl (r_2062 _) (fun v42 e42 l42 u42 => ?_)
      refine zs_i2l (pc := 43) C dX9_wantOf_43 ?_
      exact zs_lret (pc := 44) C hr hlk dX9_wantOf_44 ⟨by repeat (first | exact zsm_rf | assumption | refine zsm_C (by decide) ?_ | refine zsm_I (by decide) ?_ | refine zsm_J ?_ | refine zsm_c (by assumption) (by decide) ?_), trivial⟩
    · skip
      refine zs_aload_n (pc := 28) C dX9_wantOf_28 rfl ?_
      refine zs_getf (pc := 29) C dX9_wantOf_29 w_X9_57 f_10_34 (by decide) ?_
      refine zs_iconst (pc := 32) C dX9_wantOf_32 (by decide) ?_
      refine zs_zald (r := 2071) (pc := 33) C dX9_wantOf_33 a_71 (by decide) (by omega) rfl (r_2071 _) (fun v33 e33 l33 u33 => ?_)
      refine zs_if_ne (tgt := 45) (pc := 34) C dX9_wantOf_34 (by decide) (fun h34 => ?_) (fun h34 => ?_)
      · skip
        refine zs_aload_n (pc := 45) C dX9_wantOf_45 rfl ?_
        refine zs_iload_n (pc := 46) C dX9_wantOf_46 rfl ?_
        refine zs_iload_n (pc := 47) C dX9_wantOf_47 rfl ?_
        refine zs_iload_n (pc := 48) C dX9_wantOf_48 rfl ?_
        refine zVv3 (pc := 49) C dX9_wantOf_49 v_X9_421 (c_X9_layOf hX (by omega) (by omega) (by omega)) (by decide) (by decide) ⟨Nat.zero_le _, Nat.zero_le _⟩ (Nat.le_of_ble_eq_true rfl) (fun G49 hp49 => ?_)
        obtain ⟨hz49, hq49⟩ := hp49
        have t2071 := zsm_at hz49 2071 (Γ.2.1 w 34) (2 : Int).toNat (by decide)
        refine zs_aload_n (pc := 52) C dX9_wantOf_52 rfl ?_
        refine zs_iconst (pc := 53) C dX9_wantOf_53 (by decide) ?_
        refine zVj1 (pc := 54) C dX9_wantOf_54 v_X9_418 (c_X9_lawOf hX (by repeat (first | assumption | refine MI_I (by decide) ?_ | refine MI_J ?_ | refine MI_sm (by assumption) (by decide) ?_ | refine MI_sn (by assumption) (by decide) ?_)) (by omega) (by omega)) (by decide) (by decide) ⟨Nat.zero_le _, Nat.zero_le _⟩ (Nat.le_of_ble_eq_true rfl) (fun x54 G54 l54 u54 hp54 => ?_)
        obtain ⟨hz54, hq54⟩ := hp54
        exact zs_lret (pc := 57) C hr hlk dX9_wantOf_57 ⟨by repeat (first | exact zsm_rf | assumption | refine zsm_C (by decide) ?_ | refine zsm_I (by decide) ?_ | refine zsm_J ?_ | refine zsm_c (by assumption) (by decide) ?_), trivial⟩
      · skip
        refine zs_aload_n (pc := 37) C dX9_wantOf_37 rfl ?_
        refine zs_getf (pc := 38) C dX9_wantOf_38 w_X9_30 f_10_25 (by decide) ?_
        refine zs_iload_n (pc := 41) C dX9_wantOf_41 rfl ?_
        refine zs_iald (r := 2062) (pc := 42) C dX9_wantOf_42 a_62 (by decide) (by omega) rfl (r_2062 _) (fun v42 e42 l42 u42 => ?_)
        refine zs_i2l (pc := 43) C dX9_wantOf_43 ?_
        exact zs_lret (pc := 44) C hr hlk dX9_wantOf_44 ⟨by repeat (first | exact zsm_rf | assumption | refine zsm_C (by decide) ?_ | refine zsm_I (by decide) ?_ | refine zsm_J ?_ | refine zsm_c (by assumption) (by decide) ?_), trivial⟩
  · skip
    refine zs_ldc2 (n := 100) (pc := 8) C dX9_wantOf_8 q_X9_480 (by decide) (by decide) ?_
    refine zs_aload_n (pc := 11) C dX9_wantOf_11 rfl ?_
    refine zs_getf (pc := 12) C dX9_wantOf_12 w_X9_30 f_10_25 (by decide) ?_
    refine zs_iload_n (pc := 15) C dX9_wantOf_15 rfl ?_
    refine zs_iald (r := 2062) (pc := 16) C dX9_wantOf_16 a_62 (by decide) (by omega) rfl (r_2062 _) (fun v16 e16 l16 u16 => ?_)
    refine zs_i2l (pc := 17) C dX9_wantOf_17 ?_
    refine zs_lsubF (pc := 18) C dX9_wantOf_18 (fun z18 hz181 hz182 => ?_)
    exact zs_lret (pc := 19) C hr hlk dX9_wantOf_19 ⟨by repeat (first | exact zsm_rf | assumption | refine zsm_C (by decide) ?_ | refine zsm_I (by decide) ?_ | refine zsm_J ?_ | refine zsm_c (by assumption) (by decide) ?_), trivial⟩

set_option maxHeartbeats 4000000 in
set_option maxRecDepth 100000 in
theorem c_X9_goesBy {l : Launch} {Γ : zΓ} {G : zH} {w : Nat} {b0 : Int} (hX : zXs Γ) (hM : MI Γ w G)(hb : b0 = 0 ∨ b0 = 1) : zMet l Γ yX9_goesBy cX9_goesBy 9 none 6 [zr 10 w, zi b0] G (zpv (fun G' => zsm [1050, 2091, 2092, 2093, 2094, 2095, 2096, 2097, 2098, 2099, 2100, 2088, 2087, 2082, 2084, 2083, 2089, 2086, 1073, 2090] G G' ∧ True)) := by
  refine zMet_of RX9 hX (by decide) rfl (Nat.le_of_ble_eq_true rfl) ?_
  intro p e s m args below meth c C hr hlk
  show Z p l e (zrm 6) s m args below meth c Γ 9 0 0 (MQ below (zQc Γ (zpv (fun G' => zsm [1050, 2091, 2092, 2093, 2094, 2095, 2096, 2097, 2098, 2099, 2100, 2088, 2087, 2082, 2084, 2083, 2089, 2086, 1073, 2090] G G' ∧ True))) args s 0 0 (zA Γ)) 0 [some (zr 10 w), some (zi b0), none, none, none, none, none, none, none] [] G
  refine zs_loc 1 rfl (fun ha1 hb1 => ?_)
  refine zs_iconst (pc := 0) C dX9_goesBy_0 (by decide) ?_
  refine zs_istore_n (pc := 1) C dX9_goesBy_1 (by decide) ?_
  dsimp only [zset, zclr, znone]
  refine zs_lconst (n := 0) (pc := 2) C dX9_goesBy_2 rfl (by decide) ?_
  refine zs_lstore_n (pc := 3) C dX9_goesBy_3 (by decide) ?_
  dsimp only [zset, zclr, znone]
  refine zs_iconst (pc := 4) C dX9_goesBy_4 (by decide) ?_
  refine zs_istore (pc := 5) C dX9_goesBy_5 (by decide) ?_
  dsimp only [zset, zclr, znone]
  have L7 : ∀ (nn : Nat) (x2 x3 x5 : Int) (G1 : zH), (0 ≤ x5 ∧ x5 ≤ 5) → (-1 ≤ x2 ∧ x2 ≤ 19) → (zsm [1050, 2091, 2092, 2093, 2094, 2095, 2096, 2097, 2098, 2099, 2100, 2088, 2087, 2082, 2084, 2083, 2089, 2086, 1073, 2090] G G1) → (5 - x5).toNat < nn → Z p l e (zrm 6) s m args below meth c Γ 9 0 0 (MQ below (zQc Γ (zpv (fun G' => zsm [1050, 2091, 2092, 2093, 2094, 2095, 2096, 2097, 2098, 2099, 2100, 2088, 2087, 2082, 2084, 2083, 2089, 2086, 1073, 2090] G G' ∧ True))) args s 0 0 (zA Γ)) 7 [some (zr 10 w), some (zi b0), some (zi x2), some (zj x3), none, some (zi x5), none, none, none] [] G1 := by
    intro nn
    induction nn with
    | zero => intro x2 x3 x5 G1 h7_0 h7_1 h7_2 hm; exact absurd hm (Nat.not_lt_zero _)
    | succ nn ih7 =>
      intro x2 x3 x5 G1 h7_0 h7_1 h7_2 hm7
      refine zs_iload (pc := 7) C dX9_goesBy_7 rfl ?_
      refine zs_aload_n (pc := 9) C dX9_goesBy_9 rfl ?_
      refine zs_geti (r := 1013) (pc := 10) C dX9_goesBy_10 w_X9_261 f_10_13 rfl (r_1013 0) (fun v10 e10 l10 u10 => ?_)
      refine zs_icmp_ge (tgt := 121) (pc := 13) C dX9_goesBy_13 (by decide) (fun h13 => ?_) (fun h13 => ?_)
      · skip
        have J145 : ∀ (G5 : zH), (zsm [1050, 2091, 2092, 2093, 2094, 2095, 2096, 2097, 2098, 2099, 2100, 2088, 2087, 2082, 2084, 2083, 2089, 2086, 1073, 2090] G G5) → Z p l e (zrm 6) s m args below meth c Γ 9 0 0 (MQ below (zQc Γ (zpv (fun G' => zsm [1050, 2091, 2092, 2093, 2094, 2095, 2096, 2097, 2098, 2099, 2100, 2088, 2087, 2082, 2084, 2083, 2089, 2086, 1073, 2090] G G' ∧ True))) args s 0 0 (zA Γ)) 145 [some (zr 10 w), some (zi b0), none, none, none, none, none, none, none] [] G5 := by
          intro G5 h145_0
          refine zs_iconst (pc := 145) C dX9_goesBy_145 (by decide) ?_
          refine zs_istore (pc := 146) C dX9_goesBy_146 (by decide) ?_
          dsimp only [zset, zclr, znone]
          have L148 : ∀ (nn : Nat) (x5 : Int) (G6 : zH), (0 ≤ x5 ∧ x5 ≤ 5) → (zsm [1050, 2091, 2092, 2093, 2094, 2095, 2096, 2097, 2098, 2099, 2100, 2088, 2087, 2082, 2084, 2083, 2089, 2086, 1073, 2090] G G6) → (5 - x5).toNat < nn → Z p l e (zrm 6) s m args below meth c Γ 9 0 0 (MQ below (zQc Γ (zpv (fun G' => zsm [1050, 2091, 2092, 2093, 2094, 2095, 2096, 2097, 2098, 2099, 2100, 2088, 2087, 2082, 2084, 2083, 2089, 2086, 1073, 2090] G G' ∧ True))) args s 0 0 (zA Γ)) 148 [some (zr 10 w), some (zi b0), none, none, none, some (zi x5), none, none, none] [] G6 := by
            intro nn
            induction nn with
            | zero => intro x5 G6 h148_0 h148_1 hm; exact absurd hm (Nat.not_lt_zero _)
            | succ nn ih148 =>
              intro x5 G6 h148_0 h148_1 hm148
              refine zs_iload (pc := 148) C dX9_goesBy_148 rfl ?_
              refine zs_aload_n (pc := 150) C dX9_goesBy_150 rfl ?_
              refine zs_geti (r := 1014) (pc := 151) C dX9_goesBy_151 w_X9_264 f_10_14 rfl (r_1014 0) (fun v151 e151 l151 u151 => ?_)
              refine zs_icmp_ge (tgt := 196) (pc := 154) C dX9_goesBy_154 (by decide) (fun h154 => ?_) (fun h154 => ?_)
              · skip
                refine zs_aload_n (pc := 196) C dX9_goesBy_196 rfl ?_
                refine zs_getf (pc := 197) C dX9_goesBy_197 w_X9_115 f_10_60 (by decide) ?_
                refine zs_iload_n (pc := 200) C dX9_goesBy_200 rfl ?_
                refine zs_dup2 (pc := 201) C dX9_goesBy_201 ?_
                refine zs_iald (r := 2090) (pc := 202) C dX9_goesBy_202 a_90 (by decide) (by omega) rfl (r_2090 _) (fun v202 e202 l202 u202 => ?_)
                refine zs_iconst (pc := 203) C dX9_goesBy_203 (by decide) ?_
                first | refine zs_iadd (pc := 204) C dX9_goesBy_204 (by omega) ?_ | refine zs_iaddF (pc := 204) C dX9_goesBy_204 (fun z204 hz2041 hz2042 => ?_)
                refine zs_iast (r := 2090) (pc := 205) C dX9_goesBy_205 a_90 (by decide) (by omega) rfl (r_2090 _) (by omega) ?_
                exact zs_vret (pc := 206) C hr hlk dX9_goesBy_206 ⟨by repeat (first | exact zsm_rf | assumption | refine zsm_C (by decide) ?_ | refine zsm_I (by decide) ?_ | refine zsm_J ?_ | refine zsm_c (by assumption) (by decide) ?_), trivial⟩
              · skip
                refine zs_aload_n (pc := 157) C dX9_goesBy_157 rfl ?_
                refine zs_getf (pc := 158) C dX9_goesBy_158 w_X9_51 f_10_32 (by decide) ?_
                refine zs_iload (pc := 161) C dX9_goesBy_161 rfl ?_
                refine zs_iald (r := 2069) (pc := 163) C dX9_goesBy_163 a_69 (by decide) (by omega) rfl (r_2069 _) (fun v163 e163 l163 u163 => ?_)
                refine zs_aload_n (pc := 164) C dX9_goesBy_164 rfl ?_
                refine zs_getf (pc := 165) C dX9_goesBy_165 w_X9_115 f_10_60 (by decide) ?_
                refine zs_iload_n (pc := 168) C dX9_goesBy_168 rfl ?_
                refine zs_iald (r := 2090) (pc := 169) C dX9_goesBy_169 a_90 (by decide) (by omega) rfl (r_2090 _) (fun v169 e169 l169 u169 => ?_)
                refine zs_icmp_ne (tgt := 190) (pc := 170) C dX9_goesBy_170 (by decide) (fun h170 => ?_) (fun h170 => ?_)
                · skip
                  first | refine zs_iinc (pc := 190) C dX9_goesBy_190 rfl (by decide) (by omega) ?_ | refine zs_iincF (pc := 190) C dX9_goesBy_190 rfl (by decide) (fun z190 hz1901 hz1902 => ?_)
                  dsimp only [zset, zclr, znone]
                  refine zs_goto (tgt := 148) (pc := 193) C dX9_goesBy_193 (by decide) ?_
                  exact zs_wk (ih148 _ _ (by first | omega | (simp only [zuI_1, zuI_2, zuJ_1, zuJ_2, zuJ_3, zuP_1, zuP_2, zuP_3, zuC_1, zuC_2, reduceIte, Nat.reduceEqDiff, false_and, and_false, true_and, and_true, and_self, or_true, true_or, or_false, false_or]; omega)) (by repeat (first | exact zsm_rf | assumption | refine zsm_C (by decide) ?_ | refine zsm_I (by decide) ?_ | refine zsm_J ?_ | refine zsm_c (by assumption) (by decide) ?_)) (by first | omega | (simp only [zuI_1, zuI_2, zuJ_1, zuJ_2, zuJ_3, zuP_1, zuP_2, zuP_3, zuC_1, zuC_2, reduceIte, Nat.reduceEqDiff, false_and, and_false, true_and, and_true, and_self, or_true, true_or, or_false, false_or]; omega))) (zwk_s rfl (zwk_s rfl (zwk_n (zwk_n (zwk_n (zwk_s rfl (zwk_n (zwk_n (zwk_n zwk_0)))))))))
                · skip
                  refine zs_aload_n (pc := 173) C dX9_goesBy_173 rfl ?_
                  refine zs_iload_n (pc := 174) C dX9_goesBy_174 rfl ?_
                  refine zs_iload (pc := 175) C dX9_goesBy_175 rfl ?_
                  refine zVip2 (pc := 177) C dX9_goesBy_177 v_X9_474 (c_X9_canBake hX (by omega) (by omega)) (by decide) (by decide) ⟨Nat.zero_le _, Nat.zero_le _⟩ (Nat.le_of_ble_eq_true rfl) (fun x177 l177 u177 hp177 => ?_)
                  have hq177 := hp177
                  refine zs_if_eq (tgt := 190) (pc := 180) C dX9_goesBy_180 (by decide) (fun h180 => ?_) (fun h180 => ?_)
                  · skip
                    first | refine zs_iinc (pc := 190) C dX9_goesBy_190 rfl (by decide) (by omega) ?_ | refine zs_iincF (pc := 190) C dX9_goesBy_190 rfl (by decide) (fun z190 hz1901 hz1902 => ?_)
                    dsimp only [zset, zclr, znone]
                    refine zs_goto (tgt := 148) (pc := 193) C dX9_goesBy_193 (by decide) ?_
                    exact zs_wk (ih148 _ _ (by first | omega | (simp only [zuI_1, zuI_2, zuJ_1, zuJ_2, zuJ_3, zuP_1, zuP_2, zuP_3, zuC_1, zuC_2, reduceIte, Nat.reduceEqDiff, false_and, and_false, true_and, and_true, and_self, or_true, true_or, or_false, false_or]; omega)) (by repeat (first | exact zsm_rf | assumption | refine zsm_C (by decide) ?_ | refine zsm_I (by decide) ?_ | refine zsm_J ?_ | refine zsm_c (by assumption) (by decide) ?_)) (by first | omega | (simp only [zuI_1, zuI_2, zuJ_1, zuJ_2, zuJ_3, zuP_1, zuP_2, zuP_3, zuC_1, zuC_2, reduceIte, Nat.reduceEqDiff, false_and, and_false, true_and, and_true, and_self, or_true, true_or, or_false, false_or]; omega))) (zwk_s rfl (zwk_s rfl (zwk_n (zwk_n (zwk_n (zwk_s rfl (zwk_n (zwk_n (zwk_n zwk_0)))))))))
                  · skip
                    refine zs_aload_n (pc := 183) C dX9_goesBy_183 rfl ?_
                    refine zs_iload_n (pc := 184) C dX9_goesBy_184 rfl ?_
                    refine zs_iload (pc := 185) C dX9_goesBy_185 rfl ?_
                    refine zVv2 (pc := 187) C dX9_goesBy_187 v_X9_477 (c_X9_bakes hX (by omega) (by omega) (by omega)) (by decide) (by decide) ⟨Nat.zero_le _, Nat.zero_le _⟩ (Nat.le_of_ble_eq_true rfl) (fun G187 hp187 => ?_)
                    obtain ⟨hz187, hq187⟩ := hp187
                    first | refine zs_iinc (pc := 190) C dX9_goesBy_190 rfl (by decide) (by omega) ?_ | refine zs_iincF (pc := 190) C dX9_goesBy_190 rfl (by decide) (fun z190 hz1901 hz1902 => ?_)
                    dsimp only [zset, zclr, znone]
                    refine zs_goto (tgt := 148) (pc := 193) C dX9_goesBy_193 (by decide) ?_
                    exact zs_wk (ih148 _ _ (by first | omega | (simp only [zuI_1, zuI_2, zuJ_1, zuJ_2, zuJ_3, zuP_1, zuP_2, zuP_3, zuC_1, zuC_2, reduceIte, Nat.reduceEqDiff, false_and, and_false, true_and, and_true, and_self, or_true, true_or, or_false, false_or]; omega)) (by repeat (first | exact zsm_rf | assumption | refine zsm_C (by decide) ?_ | refine zsm_I (by decide) ?_ | refine zsm_J ?_ | refine zsm_c (by assumption) (by decide) ?_)) (by first | omega | (simp only [zuI_1, zuI_2, zuJ_1, zuJ_2, zuJ_3, zuP_1, zuP_2, zuP_3, zuC_1, zuC_2, reduceIte, Nat.reduceEqDiff, false_and, and_false, true_and, and_true, and_self, or_true, true_or, or_false, false_or]; omega))) (zwk_s rfl (zwk_s rfl (zwk_n (zwk_n (zwk_n (zwk_s rfl (zwk_n (zwk_n (zwk_n zwk_0)))))))))
          exact zs_wk (L148 _ _ _ (by first | omega | (simp only [zuI_1, zuI_2, zuJ_1, zuJ_2, zuJ_3, zuP_1, zuP_2, zuP_3, zuC_1, zuC_2, reduceIte, Nat.reduceEqDiff, false_and, and_false, true_and, and_true, and_self, or_true, true_or, or_false, false_or]; omega)) (by repeat (first | exact zsm_rf | assumption | refine zsm_C (by decide) ?_ | refine zsm_I (by decide) ?_ | refine zsm_J ?_ | refine zsm_c (by assumption) (by decide) ?_)) (Nat.lt_succ_self _)) (zwk_s rfl (zwk_s rfl (zwk_n (zwk_n (zwk_n (zwk_s rfl (zwk_n (zwk_n (zwk_n zwk_0)))))))))
        refine zs_iload_n (pc := 121) C dX9_goesBy_121 rfl ?_
        refine zs_if_lt (tgt := 145) (pc := 122) C dX9_goesBy_122 (by decide) (fun h122 => ?_) (fun h122 => ?_)
        · skip
          exact zs_wk (J145 _ (by repeat (first | exact zsm_rf | assumption | refine zsm_C (by decide) ?_ | refine zsm_I (by decide) ?_ | refine zsm_J ?_ | refine zsm_c (by assumption) (by decide) ?_))) (zwk_s rfl (zwk_s rfl (zwk_n (zwk_n (zwk_n (zwk_n (zwk_n (zwk_n (zwk_n zwk_0)))))))))
        · skip
          refine zs_aload_n (pc := 125) C dX9_goesBy_125 rfl ?_
          refine zs_iload_n (pc := 126) C dX9_goesBy_126 rfl ?_
          refine zVip1 (pc := 127) C dX9_goesBy_127 v_X9_439 (c_X9_canGrind hX (by omega)) (by decide) (by decide) ⟨Nat.zero_le _, Nat.zero_le _⟩ (Nat.le_of_ble_eq_true rfl) (fun x127 l127 u127 hp127 => ?_)
          have hq127 := hp127
          refine zs_if_eq (tgt := 145) (pc := 130) C dX9_goesBy_130 (by decide) (fun h130 => ?_) (fun h130 => ?_)
          · skip
            exact zs_wk (J145 _ (by repeat (first | exact zsm_rf | assumption | refine zsm_C (by decide) ?_ | refine zsm_I (by decide) ?_ | refine zsm_J ?_ | refine zsm_c (by assumption) (by decide) ?_))) (zwk_s rfl (zwk_s rfl (zwk_n (zwk_n (zwk_n (zwk_n (zwk_n (zwk_n (zwk_n zwk_0)))))))))
          · skip
            refine zs_aload_n (pc := 133) C dX9_goesBy_133 rfl ?_
            refine zs_iload_n (pc := 134) C dX9_goesBy_134 rfl ?_
            refine zs_iload_n (pc := 135) C dX9_goesBy_135 rfl ?_
            refine zs_iconst (pc := 136) C dX9_goesBy_136 (by decide) ?_
            first | refine zs_idiv (pc := 137) C dX9_goesBy_137 (by omega) (by omega) (fun hz1371 hz1372 => ?_) | refine zs_idivF (pc := 137) C dX9_goesBy_137 (by omega) (fun z137 hz1371 hz1372 => ?_)
            refine zs_iload_n (pc := 138) C dX9_goesBy_138 rfl ?_
            refine zs_iconst (pc := 139) C dX9_goesBy_139 (by decide) ?_
            first | refine zs_irem (pc := 140) C dX9_goesBy_140 (by omega) (by omega) (fun hz1401 hz1402 => ?_) | refine zs_iremF (pc := 140) C dX9_goesBy_140 (by omega) (fun z140 hz1401 hz1402 => ?_)
            refine zVi3 (pc := 141) C dX9_goesBy_141 v_X9_445 (c_X9_grinds hX (by repeat (first | assumption | refine MI_I (by decide) ?_ | refine MI_J ?_ | refine MI_sm (by assumption) (by decide) ?_ | refine MI_sn (by assumption) (by decide) ?_)) (by omega) (by omega) (by omega) (by omega) (by omega)) (by decide) (by decide) ⟨Nat.zero_le _, Nat.zero_le _⟩ (Nat.le_of_ble_eq_true rfl) (fun x141 G141 l141 u141 hp141 => ?_)
            obtain ⟨hz141, hq141⟩ := hp141
            refine zs_popi (pc := 144) C dX9_goesBy_144 ?_
            exact zs_wk (J145 _ (by repeat (first | exact zsm_rf | assumption | refine zsm_C (by decide) ?_ | refine zsm_I (by decide) ?_ | refine zsm_J ?_ | refine zsm_c (by assumption) (by decide) ?_))) (zwk_s rfl (zwk_s rfl (zwk_n (zwk_n (zwk_n (zwk_n (zwk_n (zwk_n (zwk_n zwk_0)))))))))
      · skip
        refine zs_iconst (pc := 16) C dX9_goesBy_16 (by decide) ?_
        refine zs_istore (pc := 17) C dX9_goesBy_17 (by decide) ?_
        dsimp only [zset, zclr, znone]
        have L19 : ∀ (nn : Nat) (x2 x3 x6 : Int) (G2 : zH), (0 ≤ x6 ∧ x6 ≤ 4) → (-1 ≤ x2 ∧ x2 ≤ 19) → (zsm [1050, 2091, 2092, 2093, 2094, 2095, 2096, 2097, 2098, 2099, 2100, 2088, 2087, 2082, 2084, 2083, 2089, 2086, 1073, 2090] G G2) → (4 - x6).toNat < nn → Z p l e (zrm 6) s m args below meth c Γ 9 0 0 (MQ below (zQc Γ (zpv (fun G' => zsm [1050, 2091, 2092, 2093, 2094, 2095, 2096, 2097, 2098, 2099, 2100, 2088, 2087, 2082, 2084, 2083, 2089, 2086, 1073, 2090] G G' ∧ True))) args s 0 0 (zA Γ)) 19 [some (zr 10 w), some (zi b0), some (zi x2), some (zj x3), none, some (zi x5), some (zi x6), none, none] [] G2 := by
          intro nn
          induction nn with
          | zero => intro x2 x3 x6 G2 h19_0 h19_1 h19_2 hm; exact absurd hm (Nat.not_lt_zero _)
          | succ nn ih19 =>
            intro x2 x3 x6 G2 h19_0 h19_1 h19_2 hm19
            refine zs_iload (pc := 19) C dX9_goesBy_19 rfl ?_
            refine zs_aload_n (pc := 21) C dX9_goesBy_21 rfl ?_
            refine zs_geti (r := 1012) (pc := 22) C dX9_goesBy_22 w_X9_258 f_10_12 rfl (r_1012 0) (fun v22 e22 l22 u22 => ?_)
            refine zs_icmp_ge (tgt := 115) (pc := 25) C dX9_goesBy_25 (by decide) (fun h25 => ?_) (fun h25 => ?_)
            · skip
              first | refine zs_iinc (pc := 115) C dX9_goesBy_115 rfl (by decide) (by omega) ?_ | refine zs_iincF (pc := 115) C dX9_goesBy_115 rfl (by decide) (fun z115 hz1151 hz1152 => ?_)
              dsimp only [zset, zclr, znone]
              refine zs_goto (tgt := 7) (pc := 118) C dX9_goesBy_118 (by decide) ?_
              exact zs_wk (ih7 _ _ _ _ (by first | omega | (simp only [zuI_1, zuI_2, zuJ_1, zuJ_2, zuJ_3, zuP_1, zuP_2, zuP_3, zuC_1, zuC_2, reduceIte, Nat.reduceEqDiff, false_and, and_false, true_and, and_true, and_self, or_true, true_or, or_false, false_or]; omega)) (by first | omega | (simp only [zuI_1, zuI_2, zuJ_1, zuJ_2, zuJ_3, zuP_1, zuP_2, zuP_3, zuC_1, zuC_2, reduceIte, Nat.reduceEqDiff, false_and, and_false, true_and, and_true, and_self, or_true, true_or, or_false, false_or]; omega)) (by repeat (first | exact zsm_rf | assumption | refine zsm_C (by decide) ?_ | refine zsm_I (by decide) ?_ | refine zsm_J ?_ | refine zsm_c (by assumption) (by decide) ?_)) (by first | omega | (simp only [zuI_1, zuI_2, zuJ_1, zuJ_2, zuJ_3, zuP_1, zuP_2, zuP_3, zuC_1, zuC_2, reduceIte, Nat.reduceEqDiff, false_and, and_false, true_and, and_true, and_self, or_true, true_or, or_false, false_or]; omega))) (zwk_s rfl (zwk_s rfl (zwk_s rfl (zwk_s rfl (zwk_n (zwk_s rfl (zwk_n (zwk_n (zwk_n zwk_0)))))))))
            · skip
              refine zs_aload_n (pc := 28) C dX9_goesBy_28 rfl ?_
              refine zs_iload_n (pc := 29) C dX9_goesBy_29 rfl ?_
              refine zs_iload (pc := 30) C dX9_goesBy_30 rfl ?_
              refine zs_iload (pc := 32) C dX9_goesBy_32 rfl ?_
              refine zVip3 (pc := 34) C dX9_goesBy_34 v_X9_394 (c_X9_leftOf hX (by omega) (by omega) (by omega)) (by decide) (by decide) ⟨Nat.zero_le _, Nat.zero_le _⟩ (Nat.le_of_ble_eq_true rfl) (fun x34 l34 u34 hp34 => ?_)
              have hq34 := hp34
              have J109 : ∀ (x2 x3 : Int) (G3 : zH), (-1 ≤ x2 ∧ x2 ≤ 19) → (zsm [1050, 2091, 2092, 2093, 2094, 2095, 2096, 2097, 2098, 2099, 2100, 2088, 2087, 2082, 2084, 2083, 2089, 2086, 1073, 2090] G G3) → Z p l e (zrm 6) s m args below meth c Γ 9 0 0 (MQ below (zQc Γ (zpv (fun G' => zsm [1050, 2091, 2092, 2093, 2094, 2095, 2096, 2097, 2098, 2099, 2100, 2088, 2087, 2082, 2084, 2083, 2089, 2086, 1073, 2090] G G' ∧ True))) args s 0 0 (zA Γ)) 109 [some (zr 10 w), some (zi b0), some (zi x2), some (zj x3), none, some (zi x5), some (zi x6), none, none] [] G3 := by
                intro x2 x3 G3 h109_0 h109_1
                first | refine zs_iinc (pc := 109) C dX9_goesBy_109 rfl (by decide) (by omega) ?_ | refine zs_iincF (pc := 109) C dX9_goesBy_109 rfl (by decide) (fun z109 hz1091 hz1092 => ?_)
                dsimp only [zset, zclr, znone]
                refine zs_goto (tgt := 19) (pc := 112) C dX9_goesBy_112 (by decide) ?_
                exact zs_wk (ih19 _ _ _ _ (by first | omega | (simp only [zuI_1, zuI_2, zuJ_1, zuJ_2, zuJ_3, zuP_1, zuP_2, zuP_3, zuC_1, zuC_2, reduceIte, Nat.reduceEqDiff, false_and, and_false, true_and, and_true, and_self, or_true, true_or, or_false, false_or]; omega)) (by first | omega | (simp only [zuI_1, zuI_2, zuJ_1, zuJ_2, zuJ_3, zuP_1, zuP_2, zuP_3, zuC_1, zuC_2, reduceIte, Nat.reduceEqDiff, false_and, and_false, true_and, and_true, and_self, or_true, true_or, or_false, false_or]; omega)) (by repeat (first | exact zsm_rf | assumption | refine zsm_C (by decide) ?_ | refine zsm_I (by decide) ?_ | refine zsm_J ?_ | refine zsm_c (by assumption) (by decide) ?_)) (by first | omega | (simp only [zuI_1, zuI_2, zuJ_1, zuJ_2, zuJ_3, zuP_1, zuP_2, zuP_3, zuC_1, zuC_2, reduceIte, Nat.reduceEqDiff, false_and, and_false, true_and, and_true, and_self, or_true, true_or, or_false, false_or]; omega))) (zwk_s rfl (zwk_s rfl (zwk_s rfl (zwk_s rfl (zwk_n (zwk_s rfl (zwk_s rfl (zwk_n (zwk_n zwk_0)))))))))
              refine zs_if_eq (tgt := 109) (pc := 37) C dX9_goesBy_37 (by decide) (fun h37 => ?_) (fun h37 => ?_)
              · skip
                exact zs_wk (J109 _ _ _ (by first | omega | (simp only [zuI_1, zuI_2, zuJ_1, zuJ_2, zuJ_3, zuP_1, zuP_2, zuP_3, zuC_1, zuC_2, reduceIte, Nat.reduceEqDiff, false_and, and_false, true_and, and_true, and_self, or_true, true_or, or_false, false_or]; omega)) (by repeat (first | exact zsm_rf | assumption | refine zsm_C (by decide) ?_ | refine zsm_I (by decide) ?_ | refine zsm_J ?_ | refine zsm_c (by assumption) (by decide) ?_))) (zwk_s rfl (zwk_s rfl (zwk_s rfl (zwk_s rfl (zwk_n (zwk_s rfl (zwk_s rfl (zwk_n (zwk_n zwk_0)))))))))
              · skip
                refine zs_aload_n (pc := 40) C dX9_goesBy_40 rfl ?_
                refine zs_geti (r := 1074) (pc := 41) C dX9_goesBy_41 w_X9_148 f_10_74 rfl (r_1074 0) (fun v41 e41 l41 u41 => ?_)
                refine zs_iconst (pc := 44) C dX9_goesBy_44 (by decide) ?_
                refine zs_icmp_ne (tgt := 57) (pc := 45) C dX9_goesBy_45 (by decide) (fun h45 => ?_) (fun h45 => ?_)
                · skip
                  refine zs_aload_n (pc := 57) C dX9_goesBy_57 rfl ?_
                  refine zs_geti (r := 1074) (pc := 58) C dX9_goesBy_58 w_X9_148 f_10_74 rfl (r_1074 0) (fun v58 e58 l58 u58 => ?_)
                  refine zs_iconst (pc := 61) C dX9_goesBy_61 (by decide) ?_
                  refine zs_icmp_ne (tgt := 77) (pc := 62) C dX9_goesBy_62 (by decide) (fun h62 => ?_) (fun h62 => ?_)
                  · skip
                    refine zs_aload_n (pc := 77) C dX9_goesBy_77 rfl ?_
                    refine zs_iload_n (pc := 78) C dX9_goesBy_78 rfl ?_
                    refine zs_iload (pc := 79) C dX9_goesBy_79 rfl ?_
                    refine zs_iload (pc := 81) C dX9_goesBy_81 rfl ?_
                    refine zVj3 (pc := 83) C dX9_goesBy_83 v_X9_485 (c_X9_wantOf hX (by repeat (first | assumption | refine MI_I (by decide) ?_ | refine MI_J ?_ | refine MI_sm (by assumption) (by decide) ?_ | refine MI_sn (by assumption) (by decide) ?_)) (by omega) (by omega) (by omega)) (by decide) (by decide) ⟨Nat.zero_le _, Nat.zero_le _⟩ (Nat.le_of_ble_eq_true rfl) (fun x83 G83 l83 u83 hp83 => ?_)
                    obtain ⟨hz83, hq83⟩ := hp83
                    refine zs_lstore (pc := 86) C dX9_goesBy_86 (by decide) ?_
                    dsimp only [zset, zclr, znone]
                    refine zs_lload (pc := 88) C dX9_goesBy_88 rfl ?_
                    refine zs_lload_n (pc := 90) C dX9_goesBy_90 rfl ?_
                    refine zs_lcmp (pc := 91) C dX9_goesBy_91 (fun z91 hz91 => ?_)
                    refine zs_if_gt (tgt := 98) (pc := 92) C dX9_goesBy_92 (by decide) (fun h92 => ?_) (fun h92 => ?_)
                    · skip
                      refine zs_iconst (pc := 98) C dX9_goesBy_98 (by decide) ?_
                      refine zs_iload (pc := 99) C dX9_goesBy_99 rfl ?_
                      first | refine zs_imul (pc := 101) C dX9_goesBy_101 (by omega) ?_ | refine zs_imulF (pc := 101) C dX9_goesBy_101 (fun z101 hz1011 hz1012 => ?_)
                      refine zs_iload (pc := 102) C dX9_goesBy_102 rfl ?_
                      first | refine zs_iadd (pc := 104) C dX9_goesBy_104 (by omega) ?_ | refine zs_iaddF (pc := 104) C dX9_goesBy_104 (fun z104 hz1041 hz1042 => ?_)
                      refine zs_istore_n (pc := 105) C dX9_goesBy_105 (by decide) ?_
                      dsimp only [zset, zclr, znone]
                      refine zs_lload (pc := 106) C dX9_goesBy_106 rfl ?_
                      refine zs_lstore_n (pc := 108) C dX9_goesBy_108 (by decide) ?_
                      dsimp only [zset, zclr, znone]
                      exact zs_wk (J109 _ _ _ (by first | omega | (simp only [zuI_1, zuI_2, zuJ_1, zuJ_2, zuJ_3, zuP_1, zuP_2, zuP_3, zuC_1, zuC_2, reduceIte, Nat.reduceEqDiff, false_and, and_false, true_and, and_true, and_self, or_true, true_or, or_false, false_or]; omega)) (by repeat (first | exact zsm_rf | assumption | refine zsm_C (by decide) ?_ | refine zsm_I (by decide) ?_ | refine zsm_J ?_ | refine zsm_c (by assumption) (by decide) ?_))) (zwk_s rfl (zwk_s rfl (zwk_s rfl (zwk_s rfl (zwk_n (zwk_s rfl (zwk_s rfl (zwk_n (zwk_n zwk_0)))))))))
                    · skip
                      refine zs_goto (tgt := 109) (pc := 95) C dX9_goesBy_95 (by decide) ?_
                      exact zs_wk (J109 _ _ _ (by first | omega | (simp only [zuI_1, zuI_2, zuJ_1, zuJ_2, zuJ_3, zuP_1, zuP_2, zuP_3, zuC_1, zuC_2, reduceIte, Nat.reduceEqDiff, false_and, and_false, true_and, and_true, and_self, or_true, true_or, or_false, false_or]; omega)) (by repeat (first | exact zsm_rf | assumption | refine zsm_C (by decide) ?_ | refine zsm_I (by decide) ?_ | refine zsm_J ?_ | refine zsm_c (by assumption) (by decide) ?_))) (zwk_s rfl (zwk_s rfl (zwk_s rfl (zwk_s rfl (zwk_n (zwk_s rfl (zwk_s rfl (zwk_n (zwk_n zwk_0)))))))))
                  · skip
                    refine zs_aload_n (pc := 65) C dX9_goesBy_65 rfl ?_
                    refine zs_geti (r := 1075) (pc := 66) C dX9_goesBy_66 w_X9_482 f_10_75 rfl (r_1075 0) (fun v66 e66 l66 u66 => ?_)
                    refine zs_iload (pc := 69) C dX9_goesBy_69 rfl ?_
                    refine zs_icmp_ne (tgt := 77) (pc := 71) C dX9_goesBy_71 (by decide) (fun h71 => ?_) (fun h71 => ?_)
                    · skip
                      refine zs_aload_n (pc := 77) C dX9_goesBy_77 rfl ?_
                      refine zs_iload_n (pc := 78) C dX9_goesBy_78 rfl ?_
                      refine zs_iload (pc := 79) C dX9_goesBy_79 rfl ?_
                      refine zs_iload (pc := 81) C dX9_goesBy_81 rfl ?_
                      refine zVj3 (pc := 83) C dX9_goesBy_83 v_X9_485 (c_X9_wantOf hX (by repeat (first | assumption | refine MI_I (by decide) ?_ | refine MI_J ?_ | refine MI_sm (by assumption) (by decide) ?_ | refine MI_sn (by assumption) (by decide) ?_)) (by omega) (by omega) (by omega)) (by decide) (by decide) ⟨Nat.zero_le _, Nat.zero_le _⟩ (Nat.le_of_ble_eq_true rfl) (fun x83 G83 l83 u83 hp83 => ?_)
                      obtain ⟨hz83, hq83⟩ := hp83
                      refine zs_lstore (pc := 86) C dX9_goesBy_86 (by decide) ?_
                      dsimp only [zset, zclr, znone]
                      refine zs_lload (pc := 88) C dX9_goesBy_88 rfl ?_
                      refine zs_lload_n (pc := 90) C dX9_goesBy_90 rfl ?_
                      refine zs_lcmp (pc := 91) C dX9_goesBy_91 (fun z91 hz91 => ?_)
                      refine zs_if_gt (tgt := 98) (pc := 92) C dX9_goesBy_92 (by decide) (fun h92 => ?_) (fun h92 => ?_)
                      · skip
                        refine zs_iconst (pc := 98) C dX9_goesBy_98 (by decide) ?_
                        refine zs_iload (pc := 99) C dX9_goesBy_99 rfl ?_
                        first | refine zs_imul (pc := 101) C dX9_goesBy_101 (by omega) ?_ | refine zs_imulF (pc := 101) C dX9_goesBy_101 (fun z101 hz1011 hz1012 => ?_)
                        refine zs_iload (pc := 102) C dX9_goesBy_102 rfl ?_
                        first | refine zs_iadd (pc := 104) C dX9_goesBy_104 (by omega) ?_ | refine zs_iaddF (pc := 104) C dX9_goesBy_104 (fun z104 hz1041 hz1042 => ?_)
                        refine zs_istore_n (pc := 105) C dX9_goesBy_105 (by decide) ?_
                        dsimp only [zset, zclr, znone]
                        refine zs_lload (pc := 106) C dX9_goesBy_106 rfl ?_
                        refine zs_lstore_n (pc := 108) C dX9_goesBy_108 (by decide) ?_
                        dsimp only [zset, zclr, znone]
                        exact zs_wk (J109 _ _ _ (by first | omega | (simp only [zuI_1, zuI_2, zuJ_1, zuJ_2, zuJ_3, zuP_1, zuP_2, zuP_3, zuC_1, zuC_2, reduceIte, Nat.reduceEqDiff, false_and, and_false, true_and, and_true, and_self, or_true, true_or, or_false, false_or]; omega)) (by repeat (first | exact zsm_rf | assumption | refine zsm_C (by decide) ?_ | refine zsm_I (by decide) ?_ | refine zsm_J ?_ | refine zsm_c (by assumption) (by decide) ?_))) (zwk_s rfl (zwk_s rfl (zwk_s rfl (zwk_s rfl (zwk_n (zwk_s rfl (zwk_s rfl (zwk_n (zwk_n zwk_0)))))))))
                      · skip
                        refine zs_goto (tgt := 109) (pc := 95) C dX9_goesBy_95 (by decide) ?_
                        exact zs_wk (J109 _ _ _ (by first | omega | (simp only [zuI_1, zuI_2, zuJ_1, zuJ_2, zuJ_3, zuP_1, zuP_2, zuP_3, zuC_1, zuC_2, reduceIte, Nat.reduceEqDiff, false_and, and_false, true_and, and_true, and_self, or_true, true_or, or_false, false_or]; omega)) (by repeat (first | exact zsm_rf | assumption | refine zsm_C (by decide) ?_ | refine zsm_I (by decide) ?_ | refine zsm_J ?_ | refine zsm_c (by assumption) (by decide) ?_))) (zwk_s rfl (zwk_s rfl (zwk_s rfl (zwk_s rfl (zwk_n (zwk_s rfl (zwk_s rfl (zwk_n (zwk_n zwk_0)))))))))
                    · skip
                      refine zs_goto (tgt := 109) (pc := 74) C dX9_goesBy_74 (by decide) ?_
                      exact zs_wk (J109 _ _ _ (by first | omega | (simp only [zuI_1, zuI_2, zuJ_1, zuJ_2, zuJ_3, zuP_1, zuP_2, zuP_3, zuC_1, zuC_2, reduceIte, Nat.reduceEqDiff, false_and, and_false, true_and, and_true, and_self, or_true, true_or, or_false, false_or]; omega)) (by repeat (first | exact zsm_rf | assumption | refine zsm_C (by decide) ?_ | refine zsm_I (by decide) ?_ | refine zsm_J ?_ | refine zsm_c (by assumption) (by decide) ?_))) (zwk_s rfl (zwk_s rfl (zwk_s rfl (zwk_s rfl (zwk_n (zwk_s rfl (zwk_s rfl (zwk_n (zwk_n zwk_0)))))))))
                · skip
                  refine zs_aload_n (pc := 48) C dX9_goesBy_48 rfl ?_
                  refine zs_geti (r := 1075) (pc := 49) C dX9_goesBy_49 w_X9_482 f_10_75 rfl (r_1075 0) (fun v49 e49 l49 u49 => ?_)
                  refine zs_iload (pc := 52) C dX9_goesBy_52 rfl ?_
                  refine zs_icmp_eq (tgt := 109) (pc := 54) C dX9_goesBy_54 (by decide) (fun h54 => ?_) (fun h54 => ?_)
                  · skip
                    exact zs_wk (J109 _ _ _ (by first | omega | (simp only [zuI_1, zuI_2, zuJ_1, zuJ_2, zuJ_3, zuP_1, zuP_2, zuP_3, zuC_1, zuC_2, reduceIte, Nat.reduceEqDiff, false_and, and_false, true_and, and_true, and_self, or_true, true_or, or_false, false_or]; omega)) (by repeat (first | exact zsm_rf | assumption | refine zsm_C (by decide) ?_ | refine zsm_I (by decide) ?_ | refine zsm_J ?_ | refine zsm_c (by assumption) (by decide) ?_))) (zwk_s rfl (zwk_s rfl (zwk_s rfl (zwk_s rfl (zwk_n (zwk_s rfl (zwk_s rfl (zwk_n (zwk_n zwk_0)))))))))
                  · skip
                    refine zs_aload_n (pc := 57) C dX9_goesBy_57 rfl ?_
                    refine zs_geti (r := 1074) (pc := 58) C dX9_goesBy_58 w_X9_148 f_10_74 rfl (r_1074 0) (fun v58 e58 l58 u58 => ?_)
                    refine zs_iconst (pc := 61) C dX9_goesBy_61 (by decide) ?_
                    refine zs_icmp_ne (tgt := 77) (pc := 62) C dX9_goesBy_62 (by decide) (fun h62 => ?_) (fun h62 => ?_)
                    · skip
                      refine zs_aload_n (pc := 77) C dX9_goesBy_77 rfl ?_
                      refine zs_iload_n (pc := 78) C dX9_goesBy_78 rfl ?_
                      refine zs_iload (pc := 79) C dX9_goesBy_79 rfl ?_
                      refine zs_iload (pc := 81) C dX9_goesBy_81 rfl ?_
                      refine zVj3 (pc := 83) C dX9_goesBy_83 v_X9_485 (c_X9_wantOf hX (by repeat (first | assumption | refine MI_I (by decide) ?_ | refine MI_J ?_ | refine MI_sm (by assumption) (by decide) ?_ | refine MI_sn (by assumption) (by decide) ?_)) (by omega) (by omega) (by omega)) (by decide) (by decide) ⟨Nat.zero_le _, Nat.zero_le _⟩ (Nat.le_of_ble_eq_true rfl) (fun x83 G83 l83 u83 hp83 => ?_)
                      obtain ⟨hz83, hq83⟩ := hp83
                      refine zs_lstore (pc := 86) C dX9_goesBy_86 (by decide) ?_
                      dsimp only [zset, zclr, znone]
                      refine zs_lload (pc := 88) C dX9_goesBy_88 rfl ?_
                      refine zs_lload_n (pc := 90) C dX9_goesBy_90 rfl ?_
                      refine zs_lcmp (pc := 91) C dX9_goesBy_91 (fun z91 hz91 => ?_)
                      refine zs_if_gt (tgt := 98) (pc := 92) C dX9_goesBy_92 (by decide) (fun h92 => ?_) (fun h92 => ?_)
                      · skip
                        refine zs_iconst (pc := 98) C dX9_goesBy_98 (by decide) ?_
                        refine zs_iload (pc := 99) C dX9_goesBy_99 rfl ?_
                        first | refine zs_imul (pc := 101) C dX9_goesBy_101 (by omega) ?_ | refine zs_imulF (pc := 101) C dX9_goesBy_101 (fun z101 hz1011 hz1012 => ?_)
                        refine zs_iload (pc := 102) C dX9_goesBy_102 rfl ?_
                        first | refine zs_iadd (pc := 104) C dX9_goesBy_104 (by omega) ?_ | refine zs_iaddF (pc := 104) C dX9_goesBy_104 (fun z104 hz1041 hz1042 => ?_)
                        refine zs_istore_n (pc := 105) C dX9_goesBy_105 (by decide) ?_
                        dsimp only [zset, zclr, znone]
                        refine zs_lload (pc := 106) C dX9_goesBy_106 rfl ?_
                        refine zs_lstore_n (pc := 108) C dX9_goesBy_108 (by decide) ?_
                        dsimp only [zset, zclr, znone]
                        exact zs_wk (J109 _ _ _ (by first | omega | (simp only [zuI_1, zuI_2, zuJ_1, zuJ_2, zuJ_3, zuP_1, zuP_2, zuP_3, zuC_1, zuC_2, reduceIte, Nat.reduceEqDiff, false_and, and_false, true_and, and_true, and_self, or_true, true_or, or_false, false_or]; omega)) (by repeat (first | exact zsm_rf | assumption | refine zsm_C (by decide) ?_ | refine zsm_I (by decide) ?_ | refine zsm_J ?_ | refine zsm_c (by assumption) (by decide) ?_))) (zwk_s rfl (zwk_s rfl (zwk_s rfl (zwk_s rfl (zwk_n (zwk_s rfl (zwk_s rfl (zwk_n (zwk_n zwk_0)))))))))
                      · skip
                        refine zs_goto (tgt := 109) (pc := 95) C dX9_goesBy_95 (by decide) ?_
                        exact zs_wk (J109 _ _ _ (by first | omega | (simp only [zuI_1, zuI_2, zuJ_1, zuJ_2, zuJ_3, zuP_1, zuP_2, zuP_3, zuC_1, zuC_2, reduceIte, Nat.reduceEqDiff, false_and, and_false, true_and, and_true, and_self, or_true, true_or, or_false, false_or]; omega)) (by repeat (first | exact zsm_rf | assumption | refine zsm_C (by decide) ?_ | refine zsm_I (by decide) ?_ | refine zsm_J ?_ | refine zsm_c (by assumption) (by decide) ?_))) (zwk_s rfl (zwk_s rfl (zwk_s rfl (zwk_s rfl (zwk_n (zwk_s rfl (zwk_s rfl (zwk_n (zwk_n zwk_0)))))))))
                    · skip
                      refine zs_aload_n (pc := 65) C dX9_goesBy_65 rfl ?_
                      refine zs_geti (r := 1075) (pc := 66) C dX9_goesBy_66 w_X9_482 f_10_75 rfl (r_1075 0) (fun v66 e66 l66 u66 => ?_)
                      refine zs_iload (pc := 69) C dX9_goesBy_69 rfl ?_
                      refine zs_icmp_ne (tgt := 77) (pc := 71) C dX9_goesBy_71 (by decide) (fun h71 => ?_) (fun h71 => ?_)
                      · skip
                        refine zs_aload_n (pc := 77) C dX9_goesBy_77 rfl ?_
                        refine zs_iload_n (pc := 78) C dX9_goesBy_78 rfl ?_
                        refine zs_iload (pc := 79) C dX9_goesBy_79 rfl ?_
                        refine zs_iload (pc := 81) C dX9_goesBy_81 rfl ?_
                        refine zVj3 (pc := 83) C dX9_goesBy_83 v_X9_485 (c_X9_wantOf hX (by repeat (first | assumption | refine MI_I (by decide) ?_ | refine MI_J ?_ | refine MI_sm (by assumption) (by decide) ?_ | refine MI_sn (by assumption) (by decide) ?_)) (by omega) (by omega) (by omega)) (by decide) (by decide) ⟨Nat.zero_le _, Nat.zero_le _⟩ (Nat.le_of_ble_eq_true rfl) (fun x83 G83 l83 u83 hp83 => ?_)
                        obtain ⟨hz83, hq83⟩ := hp83
                        refine zs_lstore (pc := 86) C dX9_goesBy_86 (by decide) ?_
                        dsimp only [zset, zclr, znone]
                        refine zs_lload (pc := 88) C dX9_goesBy_88 rfl ?_
                        refine zs_lload_n (pc := 90) C dX9_goesBy_90 rfl ?_
                        refine zs_lcmp (pc := 91) C dX9_goesBy_91 (fun z91 hz91 => ?_)
                        refine zs_if_gt (tgt := 98) (pc := 92) C dX9_goesBy_92 (by decide) (fun h92 => ?_) (fun h92 => ?_)
                        · skip
                          refine zs_iconst (pc := 98) C dX9_goesBy_98 (by decide) ?_
                          refine zs_iload (pc := 99) C dX9_goesBy_99 rfl ?_
                          first | refine zs_imul (pc := 101) C dX9_goesBy_101 (by omega) ?_ | refine zs_imulF (pc := 101) C dX9_goesBy_101 (fun z101 hz1011 hz1012 => ?_)
                          refine zs_iload (pc := 102) C dX9_goesBy_102 rfl ?_
                          first | refine zs_iadd (pc := 104) C dX9_goesBy_104 (by omega) ?_ | refine zs_iaddF (pc := 104) C dX9_goesBy_104 (fun z104 hz1041 hz1042 => ?_)
                          refine zs_istore_n (pc := 105) C dX9_goesBy_105 (by decide) ?_
                          dsimp only [zset, zclr, znone]
                          refine zs_lload (pc := 106) C dX9_goesBy_106 rfl ?_
                          refine zs_lstore_n (pc := 108) C dX9_goesBy_108 (by decide) ?_
                          dsimp only [zset, zclr, znone]
                          exact zs_wk (J109 _ _ _ (by first | omega | (simp only [zuI_1, zuI_2, zuJ_1, zuJ_2, zuJ_3, zuP_1, zuP_2, zuP_3, zuC_1, zuC_2, reduceIte, Nat.reduceEqDiff, false_and, and_false, true_and, and_true, and_self, or_true, true_or, or_false, false_or]; omega)) (by repeat (first | exact zsm_rf | assumption | refine zsm_C (by decide) ?_ | refine zsm_I (by decide) ?_ | refine zsm_J ?_ | refine zsm_c (by assumption) (by decide) ?_))) (zwk_s rfl (zwk_s rfl (zwk_s rfl (zwk_s rfl (zwk_n (zwk_s rfl (zwk_s rfl (zwk_n (zwk_n zwk_0)))))))))
                        · skip
                          refine zs_goto (tgt := 109) (pc := 95) C dX9_goesBy_95 (by decide) ?_
                          exact zs_wk (J109 _ _ _ (by first | omega | (simp only [zuI_1, zuI_2, zuJ_1, zuJ_2, zuJ_3, zuP_1, zuP_2, zuP_3, zuC_1, zuC_2, reduceIte, Nat.reduceEqDiff, false_and, and_false, true_and, and_true, and_self, or_true, true_or, or_false, false_or]; omega)) (by repeat (first | exact zsm_rf | assumption | refine zsm_C (by decide) ?_ | refine zsm_I (by decide) ?_ | refine zsm_J ?_ | refine zsm_c (by assumption) (by decide) ?_))) (zwk_s rfl (zwk_s rfl (zwk_s rfl (zwk_s rfl (zwk_n (zwk_s rfl (zwk_s rfl (zwk_n (zwk_n zwk_0)))))))))
                      · skip
                        refine zs_goto (tgt := 109) (pc := 74) C dX9_goesBy_74 (by decide) ?_
                        exact zs_wk (J109 _ _ _ (by first | omega | (simp only [zuI_1, zuI_2, zuJ_1, zuJ_2, zuJ_3, zuP_1, zuP_2, zuP_3, zuC_1, zuC_2, reduceIte, Nat.reduceEqDiff, false_and, and_false, true_and, and_true, and_self, or_true, true_or, or_false, false_or]; omega)) (by repeat (first | exact zsm_rf | assumption | refine zsm_C (by decide) ?_ | refine zsm_I (by decide) ?_ | refine zsm_J ?_ | refine zsm_c (by assumption) (by decide) ?_))) (zwk_s rfl (zwk_s rfl (zwk_s rfl (zwk_s rfl (zwk_n (zwk_s rfl (zwk_s rfl (zwk_n (zwk_n zwk_0)))))))))
        exact zs_wk (L19 _ _ _ _ _ (by first | omega | (simp only [zuI_1, zuI_2, zuJ_1, zuJ_2, zuJ_3, zuP_1, zuP_2, zuP_3, zuC_1, zuC_2, reduceIte, Nat.reduceEqDiff, false_and, and_false, true_and, and_true, and_self, or_true, true_or, or_false, false_or]; omega)) (by first | omega | (simp only [zuI_1, zuI_2, zuJ_1, zuJ_2, zuJ_3, zuP_1, zuP_2, zuP_3, zuC_1, zuC_2, reduceIte, Nat.reduceEqDiff, false_and, and_false, true_and, and_true, and_self, or_true, true_or, or_false, false_or]; omega)) (by repeat (first | exact zsm_rf | assumption | refine zsm_C (by decide) ?_ | refine zsm_I (by decide) ?_ | refine zsm_J ?_ | refine zsm_c (by assumption) (by decide) ?_)) (Nat.lt_succ_self _)) (zwk_s rfl (zwk_s rfl (zwk_s rfl (zwk_s rfl (zwk_n (zwk_s rfl (zwk_s rfl (zwk_n (zwk_n zwk_0)))))))))
  exact zs_wk (L7 _ _ _ _ _ (by first | omega | (simp only [zuI_1, zuI_2, zuJ_1, zuJ_2, zuJ_3, zuP_1, zuP_2, zuP_3, zuC_1, zuC_2, reduceIte, Nat.reduceEqDiff, false_and, and_false, true_and, and_true, and_self, or_true, true_or, or_false, false_or]; omega)) (by first | omega | (simp only [zuI_1, zuI_2, zuJ_1, zuJ_2, zuJ_3, zuP_1, zuP_2, zuP_3, zuC_1, zuC_2, reduceIte, Nat.reduceEqDiff, false_and, and_false, true_and, and_true, and_self, or_true, true_or, or_false, false_or]; omega)) (by repeat (first | exact zsm_rf | assumption | refine zsm_C (by decide) ?_ | refine zsm_I (by decide) ?_ | refine zsm_J ?_ | refine zsm_c (by assumption) (by decide) ?_)) (Nat.lt_succ_self _)) (zwk_s rfl (zwk_s rfl (zwk_s rfl (zwk_s rfl (zwk_n (zwk_s rfl (zwk_n (zwk_n (zwk_n zwk_0)))))))))

set_option maxHeartbeats 4000000 in
set_option maxRecDepth 100000 in
theorem c_X9_days {l : Launch} {Γ : zΓ} {G : zH} {w : Nat} {a : Int} (hX : zXs Γ) (hM : MI Γ w G) : zMet l Γ yX9_days cX9_days 3 (some .int) 7 [zr 10 w, zi a] G (zpi (fun x G' => zsm [1050, 2091, 2092, 2093, 2094, 2095, 2096, 2097, 2098, 2099, 2100, 2088, 2087, 2082, 2084, 2083, 2089, 2086, 1073, 2090, 1074, 1002, 1084] G G' ∧ True)) := by
  refine zMet_of RX9 hX (by decide) rfl (Nat.le_of_ble_eq_true rfl) ?_
  intro p e s m args below meth c C hr hlk
  show Z p l e (zrm 7) s m args below meth c Γ 3 0 0 (MQ below (zQc Γ (zpi (fun x G' => zsm [1050, 2091, 2092, 2093, 2094, 2095, 2096, 2097, 2098, 2099, 2100, 2088, 2087, 2082, 2084, 2083, 2089, 2086, 1073, 2090, 1074, 1002, 1084] G G' ∧ True))) args s 0 0 (zA Γ)) 0 [some (zr 10 w), some (zi a), none] [] G
  refine zs_loc 1 rfl (fun ha1 hb1 => ?_)
  refine zs_aload_n (pc := 0) C dX9_days_0 rfl ?_
  refine zs_iconst (pc := 1) C dX9_days_1 (by decide) ?_
  refine zs_puti (r := 1002) (pc := 2) C dX9_days_2 w_X9_178 f_10_2 rfl (r_1002 0) (by omega) ?_
  refine zs_iload_n (pc := 5) C dX9_days_5 rfl ?_
  refine zs_iconst (pc := 6) C dX9_days_6 (by decide) ?_
  refine zs_bipush (pc := 7) C dX9_days_7 (by decide) (by decide) ?_
  refine zSip3 (pc := 9) C dX9_days_9 s_X9_223 (c_X9_isIn hX ) (by decide) ⟨Nat.zero_le _, Nat.zero_le _⟩ (Nat.le_of_ble_eq_true rfl) (fun x9 l9 u9 hp9 => ?_)
  have hq9 := hp9
  try simp only [zuI_1, zuI_2, zuJ_1, zuJ_2, zuJ_3, zuP_1, zuP_2, zuP_3, zuC_1, zuC_2, reduceIte, Nat.reduceEqDiff, false_and, and_false, true_and, and_true, and_self, or_true, true_or, or_false, false_or] at hq9
  refine zs_if_eq (tgt := 28) (pc := 12) C dX9_days_12 (by decide) (fun h12 => ?_) (fun h12 => ?_)
  · skip
    refine zs_iconst (pc := 28) C dX9_days_28 (by decide) ?_
    exact zs_iret (pc := 29) C hr hlk dX9_days_29 ⟨by repeat (first | exact zsm_rf | assumption | refine zsm_C (by decide) ?_ | refine zsm_I (by decide) ?_ | refine zsm_J ?_ | refine zsm_c (by assumption) (by decide) ?_), trivial⟩
  · skip
    refine zs_aload_n (pc := 15) C dX9_days_15 rfl ?_
    refine zs_getf (pc := 16) C dX9_days_16 w_X9_115 f_10_60 (by decide) ?_
    refine zs_iconst (pc := 19) C dX9_days_19 (by decide) ?_
    refine zs_iald (r := 2090) (pc := 20) C dX9_days_20 a_90 (by decide) (by omega) rfl (r_2090 _) (fun v20 e20 l20 u20 => ?_)
    try simp only [zuI_1, zuI_2, zuJ_1, zuJ_2, zuJ_3, zuP_1, zuP_2, zuP_3, zuC_1, zuC_2, reduceIte, Nat.reduceEqDiff, false_and, and_false, true_and, and_true, and_self, or_true, true_or, or_false, false_or] at e20
    refine zs_iload_n (pc := 21) C dX9_days_21 rfl ?_
    first | refine zs_iadd (pc := 22) C dX9_days_22 (by omega) ?_ | refine zs_iaddF (pc := 22) C dX9_days_22 (fun z22 hz221 hz222 => ?_)
    refine zs_bipush (pc := 23) C dX9_days_23 (by decide) (by decide) ?_
    refine zs_icmp_le (tgt := 30) (pc := 25) C dX9_days_25 (by decide) (fun h25 => ?_) (fun h25 => ?_)
    · skip
      refine zs_aload_n (pc := 30) C dX9_days_30 rfl ?_
      refine zs_iconst (pc := 31) C dX9_days_31 (by decide) ?_
      refine zs_puti (r := 1074) (pc := 32) C dX9_days_32 w_X9_148 f_10_74 rfl (r_1074 0) (by omega) ?_
      refine zs_iconst (pc := 35) C dX9_days_35 (by decide) ?_
      refine zs_istore_n (pc := 36) C dX9_days_36 (by decide) ?_
      dsimp only [zset, zclr, znone]
      have L37 : ∀ (nn : Nat) (x2 : Int) (G1 : zH), (0 ≤ x2 ∧ (x2 ≤ a ∨ x2 = 0)) → (zsm [1050, 2091, 2092, 2093, 2094, 2095, 2096, 2097, 2098, 2099, 2100, 2088, 2087, 2082, 2084, 2083, 2089, 2086, 1073, 2090, 1074, 1002, 1084] G G1) → (a - x2).toNat < nn → Z p l e (zrm 7) s m args below meth c Γ 3 0 0 (MQ below (zQc Γ (zpi (fun x G' => zsm [1050, 2091, 2092, 2093, 2094, 2095, 2096, 2097, 2098, 2099, 2100, 2088, 2087, 2082, 2084, 2083, 2089, 2086, 1073, 2090, 1074, 1002, 1084] G G' ∧ True))) args s 0 0 (zA Γ)) 37 [some (zr 10 w), some (zi a), some (zi x2)] [] G1 := by
        intro nn
        induction nn with
        | zero => intro x2 G1 h37_0 h37_1 hm; exact absurd hm (Nat.not_lt_zero _)
        | succ nn ih37 =>
          intro x2 G1 h37_0 h37_1 hm37
          refine zs_iload_n (pc := 37) C dX9_days_37 rfl ?_
          refine zs_iload_n (pc := 38) C dX9_days_38 rfl ?_
          refine zs_icmp_ge (tgt := 53) (pc := 39) C dX9_days_39 (by decide) (fun h39 => ?_) (fun h39 => ?_)
          · skip
            refine zs_aload_n (pc := 53) C dX9_days_53 rfl ?_
            refine zs_iload_n (pc := 54) C dX9_days_54 rfl ?_
            refine zs_if_le (tgt := 62) (pc := 55) C dX9_days_55 (by decide) (fun h55 => ?_) (fun h55 => ?_)
            · skip
              refine zs_aload_n (pc := 62) C dX9_days_62 rfl ?_
              refine zs_geti (r := 1084) (pc := 63) C dX9_days_63 w_X9_382 f_10_84 rfl (r_1084 0) (fun v63 e63 l63 u63 => ?_)
              refine zs_puti (r := 1084) (pc := 66) C dX9_days_66 w_X9_382 f_10_84 rfl (r_1084 0) (by omega) ?_
              refine zs_aload_n (pc := 69) C dX9_days_69 rfl ?_
              refine zs_getf (pc := 70) C dX9_days_70 w_X9_115 f_10_60 (by decide) ?_
              refine zs_iconst (pc := 73) C dX9_days_73 (by decide) ?_
              refine zs_iald (r := 2090) (pc := 74) C dX9_days_74 a_90 (by decide) (by omega) rfl (r_2090 _) (fun v74 e74 l74 u74 => ?_)
              try simp only [zuI_1, zuI_2, zuJ_1, zuJ_2, zuJ_3, zuP_1, zuP_2, zuP_3, zuC_1, zuC_2, reduceIte, Nat.reduceEqDiff, false_and, and_false, true_and, and_true, and_self, or_true, true_or, or_false, false_or] at e74
              exact zs_iret (pc := 75) C hr hlk dX9_days_75 ⟨by repeat (first | exact zsm_rf | assumption | refine zsm_C (by decide) ?_ | refine zsm_I (by decide) ?_ | refine zsm_J ?_ | refine zsm_c (by assumption) (by decide) ?_), trivial⟩
            · skip
              refine zs_iconst (pc := 58) C dX9_days_58 (by decide) ?_
              refine zs_goto (tgt := 66) (pc := 59) C dX9_days_59 (by decide) ?_
              refine zs_puti (r := 1084) (pc := 66) C dX9_days_66 w_X9_382 f_10_84 rfl (r_1084 0) (by omega) ?_
              refine zs_aload_n (pc := 69) C dX9_days_69 rfl ?_
              refine zs_getf (pc := 70) C dX9_days_70 w_X9_115 f_10_60 (by decide) ?_
              refine zs_iconst (pc := 73) C dX9_days_73 (by decide) ?_
              refine zs_iald (r := 2090) (pc := 74) C dX9_days_74 a_90 (by decide) (by omega) rfl (r_2090 _) (fun v74 e74 l74 u74 => ?_)
              try simp only [zuI_1, zuI_2, zuJ_1, zuJ_2, zuJ_3, zuP_1, zuP_2, zuP_3, zuC_1, zuC_2, reduceIte, Nat.reduceEqDiff, false_and, and_false, true_and, and_true, and_self, or_true, true_or, or_false, false_or] at e74
              exact zs_iret (pc := 75) C hr hlk dX9_days_75 ⟨by repeat (first | exact zsm_rf | assumption | refine zsm_C (by decide) ?_ | refine zsm_I (by decide) ?_ | refine zsm_J ?_ | refine zsm_c (by assumption) (by decide) ?_), trivial⟩
          · skip
            refine zs_aload_n (pc := 42) C dX9_days_42 rfl ?_
            refine zs_iconst (pc := 43) C dX9_days_43 (by decide) ?_
            refine zVv1 (pc := 44) C dX9_days_44 v_X9_489 (c_X9_goesBy hX (by repeat (first | assumption | refine MI_I (by decide) ?_ | refine MI_J ?_ | refine MI_sm (by assumption) (by decide) ?_ | refine MI_sn (by assumption) (by decide) ?_)) (by omega)) (by decide) (by decide) ⟨Nat.zero_le _, Nat.zero_le _⟩ (Nat.le_of_ble_eq_true rfl) (fun G44 hp44 => ?_)
            obtain ⟨hz44, hq44⟩ := hp44
            first | refine zs_iinc (pc := 47) C dX9_days_47 rfl (by decide) (by omega) ?_ | refine zs_iincF (pc := 47) C dX9_days_47 rfl (by decide) (fun z47 hz471 hz472 => ?_)
            dsimp only [zset, zclr, znone]
            refine zs_goto (tgt := 37) (pc := 50) C dX9_days_50 (by decide) ?_
            exact zs_wk (ih37 _ _ (by first | omega | (simp only [zuI_1, zuI_2, zuJ_1, zuJ_2, zuJ_3, zuP_1, zuP_2, zuP_3, zuC_1, zuC_2, reduceIte, Nat.reduceEqDiff, false_and, and_false, true_and, and_true, and_self, or_true, true_or, or_false, false_or]; omega)) (by repeat (first | exact zsm_rf | assumption | refine zsm_C (by decide) ?_ | refine zsm_I (by decide) ?_ | refine zsm_J ?_ | refine zsm_c (by assumption) (by decide) ?_)) (by first | omega | (simp only [zuI_1, zuI_2, zuJ_1, zuJ_2, zuJ_3, zuP_1, zuP_2, zuP_3, zuC_1, zuC_2, reduceIte, Nat.reduceEqDiff, false_and, and_false, true_and, and_true, and_self, or_true, true_or, or_false, false_or]; omega))) (zwk_s rfl (zwk_s rfl (zwk_s rfl zwk_0)))
      exact zs_wk (L37 _ _ _ (by first | omega | (simp only [zuI_1, zuI_2, zuJ_1, zuJ_2, zuJ_3, zuP_1, zuP_2, zuP_3, zuC_1, zuC_2, reduceIte, Nat.reduceEqDiff, false_and, and_false, true_and, and_true, and_self, or_true, true_or, or_false, false_or]; omega)) (by repeat (first | exact zsm_rf | assumption | refine zsm_C (by decide) ?_ | refine zsm_I (by decide) ?_ | refine zsm_J ?_ | refine zsm_c (by assumption) (by decide) ?_)) (Nat.lt_succ_self _)) (zwk_s rfl (zwk_s rfl (zwk_s rfl zwk_0)))
    · skip
      refine zs_iconst (pc := 28) C dX9_days_28 (by decide) ?_
      exact zs_iret (pc := 29) C hr hlk dX9_days_29 ⟨by repeat (first | exact zsm_rf | assumption | refine zsm_C (by decide) ?_ | refine zsm_I (by decide) ?_ | refine zsm_J ?_ | refine zsm_c (by assumption) (by decide) ?_), trivial⟩

set_option maxHeartbeats 4000000 in
set_option maxRecDepth 100000 in
theorem c_X9_isRun {l : Launch} {Γ : zΓ} {G : zH} {w : Nat} {a : Int} (hX : zXs Γ)  : zMet l Γ yX9_isRun cX9_isRun 2 (some .boolean) 0 [zr 10 w, zi a] G (zpi (fun x G' => G' = G ∧ (x = 0 ∨ x = 1))) := by
  refine zMet_of RX9 hX (by decide) rfl (Nat.le_of_ble_eq_true rfl) ?_
  intro p e s m args below meth c C hr hlk
  show Z p l e (zrm 0) s m args below meth c Γ 2 0 0 (MQ below (zQc Γ (zpi (fun x G' => G' = G ∧ (x = 0 ∨ x = 1)))) args s 0 0 (zA Γ)) 0 [some (zr 10 w), some (zi a)] [] G
  refine zs_loc 1 rfl (fun ha1 hb1 => ?_)
  refine zs_iload_n (pc := 0) C dX9_isRun_0 rfl ?_
  refine zs_if_lt (tgt := 21) (pc := 1) C dX9_isRun_1 (by decide) (fun h1 => ?_) (fun h1 => ?_)
  · skip
    refine zs_iconst (pc := 21) C dX9_isRun_21 (by decide) ?_
    exact zs_zret (pc := 22) C hr hlk dX9_isRun_22 (by omega) ⟨rfl, by first | omega | (simp only [zuI_1, zuI_2, zuJ_1, zuJ_2, zuJ_3, zuP_1, zuP_2, zuP_3, zuC_1, zuC_2, reduceIte, Nat.reduceEqDiff, false_and, and_false, true_and, and_true, and_self, or_true, true_or, or_false, false_or]; omega)⟩
  · skip
    refine zs_iload_n (pc := 4) C dX9_isRun_4 rfl ?_
    refine zs_bipush (pc := 5) C dX9_isRun_5 (by decide) (by decide) ?_
    refine zs_aload_n (pc := 7) C dX9_isRun_7 rfl ?_
    refine zs_getf (pc := 8) C dX9_isRun_8 w_X9_115 f_10_60 (by decide) ?_
    refine zs_iconst (pc := 11) C dX9_isRun_11 (by decide) ?_
    refine zs_iald (r := 2090) (pc := 12) C dX9_isRun_12 a_90 (by decide) (by omega) rfl (r_2090 _) (fun v12 e12 l12 u12 => ?_)
    first | refine zs_isub (pc := 13) C dX9_isRun_13 (by omega) ?_ | refine zs_isubF (pc := 13) C dX9_isRun_13 (fun z13 hz131 hz132 => ?_)
    refine zs_icmp_gt (tgt := 21) (pc := 14) C dX9_isRun_14 (by decide) (fun h14 => ?_) (fun h14 => ?_)
    · skip
      refine zs_iconst (pc := 21) C dX9_isRun_21 (by decide) ?_
      exact zs_zret (pc := 22) C hr hlk dX9_isRun_22 (by omega) ⟨rfl, by first | omega | (simp only [zuI_1, zuI_2, zuJ_1, zuJ_2, zuJ_3, zuP_1, zuP_2, zuP_3, zuC_1, zuC_2, reduceIte, Nat.reduceEqDiff, false_and, and_false, true_and, and_true, and_self, or_true, true_or, or_false, false_or]; omega)⟩
    · skip
      refine zs_iconst (pc := 17) C dX9_isRun_17 (by decide) ?_
      refine zs_goto (tgt := 22) (pc := 18) C dX9_isRun_18 (by decide) ?_
      exact zs_zret (pc := 22) C hr hlk dX9_isRun_22 (by omega) ⟨rfl, by first | omega | (simp only [zuI_1, zuI_2, zuJ_1, zuJ_2, zuJ_3, zuP_1, zuP_2, zuP_3, zuC_1, zuC_2, reduceIte, Nat.reduceEqDiff, false_and, and_false, true_and, and_true, and_self, or_true, true_or, or_false, false_or]; omega)⟩

set_option maxHeartbeats 4000000 in
set_option maxRecDepth 100000 in
theorem c_X9_runs {l : Launch} {Γ : zΓ} {G : zH} {w : Nat} {a b : Int} (hX : zXs Γ) (hM : MI Γ w G) : zMet l Γ yX9_runs cX9_runs 4 (some .int) 7 [zr 10 w, zi a, zi b] G (zpi (fun x G' => zsm [1050, 2091, 2092, 2093, 2094, 2095, 2096, 2097, 2098, 2099, 2100, 2088, 2087, 2082, 2084, 2083, 2089, 2086, 1073, 2090, 1072, 1074] G G' ∧ True)) := by
  refine zMet_of RX9 hX (by decide) rfl (Nat.le_of_ble_eq_true rfl) ?_
  intro p e s m args below meth c C hr hlk
  show Z p l e (zrm 7) s m args below meth c Γ 4 0 0 (MQ below (zQc Γ (zpi (fun x G' => zsm [1050, 2091, 2092, 2093, 2094, 2095, 2096, 2097, 2098, 2099, 2100, 2088, 2087, 2082, 2084, 2083, 2089, 2086, 1073, 2090, 1072, 1074] G G' ∧ True))) args s 0 0 (zA Γ)) 0 [some (zr 10 w), some (zi a), some (zi b), none] [] G
  refine zs_loc 1 rfl (fun ha1 hb1 => ?_)
  refine zs_loc 2 rfl (fun ha2 hb2 => ?_)
  refine zs_aload_n (pc := 0) C dX9_runs_0 rfl ?_
  refine zs_iload_n (pc := 1) C dX9_runs_1 rfl ?_
  refine zs_puti (r := 1072) (pc := 2) C dX9_runs_2 w_X9_391 f_10_72 rfl (r_1072 0) (by omega) ?_
  refine zs_iconst (pc := 5) C dX9_runs_5 (by decide) ?_
  refine zs_istore_n (pc := 6) C dX9_runs_6 (by decide) ?_
  dsimp only [zset, zclr, znone]
  have L7 : ∀ (nn : Nat) (x3 : Int) (G1 : zH), (0 ≤ x3 ∧ (x3 ≤ a ∨ x3 = 0)) → (zsm [1050, 2091, 2092, 2093, 2094, 2095, 2096, 2097, 2098, 2099, 2100, 2088, 2087, 2082, 2084, 2083, 2089, 2086, 1073, 2090, 1072, 1074] G G1) → (a - x3).toNat < nn → Z p l e (zrm 7) s m args below meth c Γ 4 0 0 (MQ below (zQc Γ (zpi (fun x G' => zsm [1050, 2091, 2092, 2093, 2094, 2095, 2096, 2097, 2098, 2099, 2100, 2088, 2087, 2082, 2084, 2083, 2089, 2086, 1073, 2090, 1072, 1074] G G' ∧ True))) args s 0 0 (zA Γ)) 7 [some (zr 10 w), some (zi a), some (zi b), some (zi x3)] [] G1 := by
    intro nn
    induction nn with
    | zero => intro x3 G1 h7_0 h7_1 hm; exact absurd hm (Nat.not_lt_zero _)
    | succ nn ih7 =>
      intro x3 G1 h7_0 h7_1 hm7
      refine zs_iload_n (pc := 7) C dX9_runs_7 rfl ?_
      refine zs_iload_n (pc := 8) C dX9_runs_8 rfl ?_
      refine zs_icmp_ge (tgt := 23) (pc := 9) C dX9_runs_9 (by decide) (fun h9 => ?_) (fun h9 => ?_)
      · skip
        refine zs_aload_n (pc := 23) C dX9_runs_23 rfl ?_
        refine zs_iconst (pc := 24) C dX9_runs_24 (by decide) ?_
        refine zs_puti (r := 1074) (pc := 25) C dX9_runs_25 w_X9_148 f_10_74 rfl (r_1074 0) (by omega) ?_
        refine zs_aload_n (pc := 28) C dX9_runs_28 rfl ?_
        refine zs_iconst (pc := 29) C dX9_runs_29 (by decide) ?_
        refine zs_iload_n (pc := 30) C dX9_runs_30 rfl ?_
        refine zVip2 (pc := 31) C dX9_runs_31 v_X9_468 (c_X9_flourOf hX (by first | omega | (simp only [zuI_1, zuI_2, zuJ_1, zuJ_2, zuJ_3, zuP_1, zuP_2, zuP_3, zuC_1, zuC_2, reduceIte, Nat.reduceEqDiff, false_and, and_false, true_and, and_true, and_self, or_true, true_or, or_false, false_or]; omega))) (by decide) (by decide) ⟨Nat.zero_le _, Nat.zero_le _⟩ (Nat.le_of_ble_eq_true rfl) (fun x31 l31 u31 hp31 => ?_)
        have hq31 := hp31
        try simp only [zuI_1, zuI_2, zuJ_1, zuJ_2, zuJ_3, zuP_1, zuP_2, zuP_3, zuC_1, zuC_2, reduceIte, Nat.reduceEqDiff, false_and, and_false, true_and, and_true, and_self, or_true, true_or, or_false, false_or] at hq31
        refine zs_aload_n (pc := 34) C dX9_runs_34 rfl ?_
        refine zs_geti (r := 1073) (pc := 35) C dX9_runs_35 w_X9_388 f_10_73 rfl (r_1073 0) (fun v35 e35 l35 u35 => ?_)
        try simp only [zuI_1, zuI_2, zuJ_1, zuJ_2, zuJ_3, zuP_1, zuP_2, zuP_3, zuC_1, zuC_2, reduceIte, Nat.reduceEqDiff, false_and, and_false, true_and, and_true, and_self, or_true, true_or, or_false, false_or] at e35
        first | refine zs_iadd (pc := 38) C dX9_runs_38 (by omega) ?_ | refine zs_iaddF (pc := 38) C dX9_runs_38 (fun z38 hz381 hz382 => ?_)
        exact zs_iret (pc := 39) C hr hlk dX9_runs_39 ⟨by repeat (first | exact zsm_rf | assumption | refine zsm_C (by decide) ?_ | refine zsm_I (by decide) ?_ | refine zsm_J ?_ | refine zsm_c (by assumption) (by decide) ?_), trivial⟩
      · skip
        refine zs_aload_n (pc := 12) C dX9_runs_12 rfl ?_
        refine zs_iconst (pc := 13) C dX9_runs_13 (by decide) ?_
        refine zVv1 (pc := 14) C dX9_runs_14 v_X9_489 (c_X9_goesBy hX (by repeat (first | assumption | refine MI_I (by decide) ?_ | refine MI_J ?_ | refine MI_sm (by assumption) (by decide) ?_ | refine MI_sn (by assumption) (by decide) ?_)) (by omega)) (by decide) (by decide) ⟨Nat.zero_le _, Nat.zero_le _⟩ (Nat.le_of_ble_eq_true rfl) (fun G14 hp14 => ?_)
        obtain ⟨hz14, hq14⟩ := hp14
        first | refine zs_iinc (pc := 17) C dX9_runs_17 rfl (by decide) (by omega) ?_ | refine zs_iincF (pc := 17) C dX9_runs_17 rfl (by decide) (fun z17 hz171 hz172 => ?_)
        dsimp only [zset, zclr, znone]
        refine zs_goto (tgt := 7) (pc := 20) C dX9_runs_20 (by decide) ?_
        exact zs_wk (ih7 _ _ (by first | omega | (simp only [zuI_1, zuI_2, zuJ_1, zuJ_2, zuJ_3, zuP_1, zuP_2, zuP_3, zuC_1, zuC_2, reduceIte, Nat.reduceEqDiff, false_and, and_false, true_and, and_true, and_self, or_true, true_or, or_false, false_or]; omega)) (by repeat (first | exact zsm_rf | assumption | refine zsm_C (by decide) ?_ | refine zsm_I (by decide) ?_ | refine zsm_J ?_ | refine zsm_c (by assumption) (by decide) ?_)) (by first | omega | (simp only [zuI_1, zuI_2, zuJ_1, zuJ_2, zuJ_3, zuP_1, zuP_2, zuP_3, zuC_1, zuC_2, reduceIte, Nat.reduceEqDiff, false_and, and_false, true_and, and_true, and_self, or_true, true_or, or_false, false_or]; omega))) (zwk_s rfl (zwk_s rfl (zwk_s rfl (zwk_s rfl zwk_0))))
  exact zs_wk (L7 _ _ _ (by first | omega | (simp only [zuI_1, zuI_2, zuJ_1, zuJ_2, zuJ_3, zuP_1, zuP_2, zuP_3, zuC_1, zuC_2, reduceIte, Nat.reduceEqDiff, false_and, and_false, true_and, and_true, and_self, or_true, true_or, or_false, false_or]; omega)) (by repeat (first | exact zsm_rf | assumption | refine zsm_C (by decide) ?_ | refine zsm_I (by decide) ?_ | refine zsm_J ?_ | refine zsm_c (by assumption) (by decide) ?_)) (Nat.lt_succ_self _)) (zwk_s rfl (zwk_s rfl (zwk_s rfl (zwk_s rfl zwk_0))))

set_option maxHeartbeats 4000000 in
set_option maxRecDepth 100000 in
theorem c_X9_run {l : Launch} {Γ : zΓ} {G : zH} {w : Nat} {a b : Int} (hX : zXs Γ) (hM : MI Γ w G) : zMet l Γ yX9_run cX9_run 3 (some .int) 8 [zr 10 w, zi a, zi b] G (zpi (fun x G' => zsm [1050, 2091, 2092, 2093, 2094, 2095, 2096, 2097, 2098, 2099, 2100, 2088, 2087, 2082, 2084, 2083, 2089, 2086, 1073, 2090, 2081, 2085, 1072, 1074, 1075, 1002] G G' ∧ True)) := by
  refine zMet_of RX9 hX (by decide) rfl (Nat.le_of_ble_eq_true rfl) ?_
  intro p e s m args below meth c C hr hlk
  show Z p l e (zrm 8) s m args below meth c Γ 3 0 0 (MQ below (zQc Γ (zpi (fun x G' => zsm [1050, 2091, 2092, 2093, 2094, 2095, 2096, 2097, 2098, 2099, 2100, 2088, 2087, 2082, 2084, 2083, 2089, 2086, 1073, 2090, 2081, 2085, 1072, 1074, 1075, 1002] G G' ∧ True))) args s 0 0 (zA Γ)) 0 [some (zr 10 w), some (zi a), some (zi b)] [] G
  refine zs_loc 1 rfl (fun ha1 hb1 => ?_)
  refine zs_loc 2 rfl (fun ha2 hb2 => ?_)
  refine zs_aload_n (pc := 0) C dX9_run_0 rfl ?_
  refine zs_iconst (pc := 1) C dX9_run_1 (by decide) ?_
  refine zs_puti (r := 1002) (pc := 2) C dX9_run_2 w_X9_178 f_10_2 rfl (r_1002 0) (by omega) ?_
  refine zs_aload_n (pc := 5) C dX9_run_5 rfl ?_
  refine zs_iload_n (pc := 6) C dX9_run_6 rfl ?_
  refine zVip1 (pc := 7) C dX9_run_7 v_X9_492 (c_X9_isRun hX ) (by decide) (by decide) ⟨Nat.zero_le _, Nat.zero_le _⟩ (Nat.le_of_ble_eq_true rfl) (fun x7 l7 u7 hp7 => ?_)
  have hq7 := hp7
  try simp only [zuI_1, zuI_2, zuJ_1, zuJ_2, zuJ_3, zuP_1, zuP_2, zuP_3, zuC_1, zuC_2, reduceIte, Nat.reduceEqDiff, false_and, and_false, true_and, and_true, and_self, or_true, true_or, or_false, false_or] at hq7
  refine zs_if_eq (tgt := 20) (pc := 10) C dX9_run_10 (by decide) (fun h10 => ?_) (fun h10 => ?_)
  · skip
    refine zs_iconst (pc := 20) C dX9_run_20 (by decide) ?_
    exact zs_iret (pc := 21) C hr hlk dX9_run_21 ⟨by repeat (first | exact zsm_rf | assumption | refine zsm_C (by decide) ?_ | refine zsm_I (by decide) ?_ | refine zsm_J ?_ | refine zsm_c (by assumption) (by decide) ?_), trivial⟩
  · skip
    refine zs_iload_n (pc := 13) C dX9_run_13 rfl ?_
    refine zSip1 (pc := 14) C dX9_run_14 s_X9_465 (c_X9_isFine hX ) (by decide) ⟨Nat.zero_le _, Nat.zero_le _⟩ (Nat.le_of_ble_eq_true rfl) (fun x14 l14 u14 hp14 => ?_)
    have hq14 := hp14
    try simp only [zuI_1, zuI_2, zuJ_1, zuJ_2, zuJ_3, zuP_1, zuP_2, zuP_3, zuC_1, zuC_2, reduceIte, Nat.reduceEqDiff, false_and, and_false, true_and, and_true, and_self, or_true, true_or, or_false, false_or] at hq14
    refine zs_if_ne (tgt := 22) (pc := 17) C dX9_run_17 (by decide) (fun h17 => ?_) (fun h17 => ?_)
    · skip
      refine zs_aload_n (pc := 22) C dX9_run_22 rfl ?_
      refine zVv0 (pc := 23) C dX9_run_23 v_X9_495 (c_X9_layTried hX ) (by decide) (by decide) ⟨Nat.zero_le _, Nat.zero_le _⟩ (Nat.le_of_ble_eq_true rfl) (fun G23 hp23 => ?_)
      obtain ⟨hz23, hq23⟩ := hp23
      try simp only [zuI_1, zuI_2, zuJ_1, zuJ_2, zuJ_3, zuP_1, zuP_2, zuP_3, zuC_1, zuC_2, reduceIte, Nat.reduceEqDiff, false_and, and_false, true_and, and_true, and_self, or_true, true_or, or_false, false_or] at hq23
      refine zs_aload_n (pc := 26) C dX9_run_26 rfl ?_
      refine zs_iload_n (pc := 27) C dX9_run_27 rfl ?_
      refine zs_iload_n (pc := 28) C dX9_run_28 rfl ?_
      refine zVi2 (pc := 29) C dX9_run_29 v_X9_498 (c_X9_runs hX (by repeat (first | assumption | refine MI_I (by decide) ?_ | refine MI_J ?_ | refine MI_sm (by assumption) (by decide) ?_ | refine MI_sn (by assumption) (by decide) ?_))) (by decide) (by decide) ⟨Nat.zero_le _, Nat.zero_le _⟩ (Nat.le_of_ble_eq_true rfl) (fun x29 G29 l29 u29 hp29 => ?_)
      obtain ⟨hz29, hq29⟩ := hp29
      exact zs_iret (pc := 32) C hr hlk dX9_run_32 ⟨by repeat (first | exact zsm_rf | assumption | refine zsm_C (by decide) ?_ | refine zsm_I (by decide) ?_ | refine zsm_J ?_ | refine zsm_c (by assumption) (by decide) ?_), trivial⟩
    · skip
      refine zs_iconst (pc := 20) C dX9_run_20 (by decide) ?_
      exact zs_iret (pc := 21) C hr hlk dX9_run_21 ⟨by repeat (first | exact zsm_rf | assumption | refine zsm_C (by decide) ?_ | refine zsm_I (by decide) ?_ | refine zsm_J ?_ | refine zsm_c (by assumption) (by decide) ?_), trivial⟩

set_option maxHeartbeats 4000000 in
set_option maxRecDepth 100000 in
theorem c_X9_tried {l : Launch} {Γ : zΓ} {G : zH} {w : Nat} {k k2 a b : Int} (hX : zXs Γ) (hM : MI Γ w G) : zMet l Γ yX9_tried cX9_tried 5 (some .int) 8 [zr 10 w, zi k, zi k2, zi a, zi b] G (zpi (fun x G' => zsm [1050, 2091, 2092, 2093, 2094, 2095, 2096, 2097, 2098, 2099, 2100, 2088, 2087, 2082, 2084, 2083, 2089, 2086, 1073, 2090, 2081, 2085, 1072, 1074, 1075, 1002] G G' ∧ True)) := by
  refine zMet_of RX9 hX (by decide) rfl (Nat.le_of_ble_eq_true rfl) ?_
  intro p e s m args below meth c C hr hlk
  show Z p l e (zrm 8) s m args below meth c Γ 5 0 0 (MQ below (zQc Γ (zpi (fun x G' => zsm [1050, 2091, 2092, 2093, 2094, 2095, 2096, 2097, 2098, 2099, 2100, 2088, 2087, 2082, 2084, 2083, 2089, 2086, 1073, 2090, 2081, 2085, 1072, 1074, 1075, 1002] G G' ∧ True))) args s 0 0 (zA Γ)) 0 [some (zr 10 w), some (zi k), some (zi k2), some (zi a), some (zi b)] [] G
  refine zs_loc 1 rfl (fun ha1 hb1 => ?_)
  refine zs_loc 2 rfl (fun ha2 hb2 => ?_)
  refine zs_loc 3 rfl (fun ha3 hb3 => ?_)
  refine zs_loc 4 rfl (fun ha4 hb4 => ?_)
  refine zs_aload_n (pc := 0) C dX9_tried_0 rfl ?_
  refine zs_iconst (pc := 1) C dX9_tried_1 (by decide) ?_
  refine zs_puti (r := 1002) (pc := 2) C dX9_tried_2 w_X9_178 f_10_2 rfl (r_1002 0) (by omega) ?_
  refine zs_iload_n (pc := 5) C dX9_tried_5 rfl ?_
  refine zs_iconst (pc := 6) C dX9_tried_6 (by decide) ?_
  refine zs_iconst (pc := 7) C dX9_tried_7 (by decide) ?_
  refine zSip3 (pc := 8) C dX9_tried_8 s_X9_223 (c_X9_isIn hX ) (by decide) ⟨Nat.zero_le _, Nat.zero_le _⟩ (Nat.le_of_ble_eq_true rfl) (fun x8 l8 u8 hp8 => ?_)
  have hq8 := hp8
  try simp only [zuI_1, zuI_2, zuJ_1, zuJ_2, zuJ_3, zuP_1, zuP_2, zuP_3, zuC_1, zuC_2, reduceIte, Nat.reduceEqDiff, false_and, and_false, true_and, and_true, and_self, or_true, true_or, or_false, false_or] at hq8
  refine zs_if_eq (tgt := 30) (pc := 11) C dX9_tried_11 (by decide) (fun h11 => ?_) (fun h11 => ?_)
  · skip
    refine zs_iconst (pc := 30) C dX9_tried_30 (by decide) ?_
    exact zs_iret (pc := 31) C hr hlk dX9_tried_31 ⟨by repeat (first | exact zsm_rf | assumption | refine zsm_C (by decide) ?_ | refine zsm_I (by decide) ?_ | refine zsm_J ?_ | refine zsm_c (by assumption) (by decide) ?_), trivial⟩
  · skip
    refine zs_aload_n (pc := 14) C dX9_tried_14 rfl ?_
    refine zs_iload_n (pc := 15) C dX9_tried_15 rfl ?_
    refine zVip1 (pc := 16) C dX9_tried_16 v_X9_492 (c_X9_isRun hX ) (by decide) (by decide) ⟨Nat.zero_le _, Nat.zero_le _⟩ (Nat.le_of_ble_eq_true rfl) (fun x16 l16 u16 hp16 => ?_)
    have hq16 := hp16
    try simp only [zuI_1, zuI_2, zuJ_1, zuJ_2, zuJ_3, zuP_1, zuP_2, zuP_3, zuC_1, zuC_2, reduceIte, Nat.reduceEqDiff, false_and, and_false, true_and, and_true, and_self, or_true, true_or, or_false, false_or] at hq16
    refine zs_if_eq (tgt := 30) (pc := 19) C dX9_tried_19 (by decide) (fun h19 => ?_) (fun h19 => ?_)
    · skip
      refine zs_iconst (pc := 30) C dX9_tried_30 (by decide) ?_
      exact zs_iret (pc := 31) C hr hlk dX9_tried_31 ⟨by repeat (first | exact zsm_rf | assumption | refine zsm_C (by decide) ?_ | refine zsm_I (by decide) ?_ | refine zsm_J ?_ | refine zsm_c (by assumption) (by decide) ?_), trivial⟩
    · skip
      refine zs_iload (pc := 22) C dX9_tried_22 rfl ?_
      refine zSip1 (pc := 24) C dX9_tried_24 s_X9_465 (c_X9_isFine hX ) (by decide) ⟨Nat.zero_le _, Nat.zero_le _⟩ (Nat.le_of_ble_eq_true rfl) (fun x24 l24 u24 hp24 => ?_)
      have hq24 := hp24
      try simp only [zuI_1, zuI_2, zuJ_1, zuJ_2, zuJ_3, zuP_1, zuP_2, zuP_3, zuC_1, zuC_2, reduceIte, Nat.reduceEqDiff, false_and, and_false, true_and, and_true, and_self, or_true, true_or, or_false, false_or] at hq24
      refine zs_if_ne (tgt := 32) (pc := 27) C dX9_tried_27 (by decide) (fun h27 => ?_) (fun h27 => ?_)
      · skip
        refine zs_iload_n (pc := 32) C dX9_tried_32 rfl ?_
        refine zs_iconst (pc := 33) C dX9_tried_33 (by decide) ?_
        refine zs_icmp_ne (tgt := 48) (pc := 34) C dX9_tried_34 (by decide) (fun h34 => ?_) (fun h34 => ?_)
        · skip
          refine zs_iload_n (pc := 48) C dX9_tried_48 rfl ?_
          refine zs_iconst (pc := 49) C dX9_tried_49 (by decide) ?_
          refine zs_icmp_ne (tgt := 64) (pc := 50) C dX9_tried_50 (by decide) (fun h50 => ?_) (fun h50 => ?_)
          · skip
            refine zs_iload_n (pc := 64) C dX9_tried_64 rfl ?_
            refine zs_if_eq (tgt := 70) (pc := 65) C dX9_tried_65 (by decide) (fun h65 => ?_) (fun h65 => ?_)
            · skip
              refine zs_aload_n (pc := 70) C dX9_tried_70 rfl ?_
              refine zVv0 (pc := 71) C dX9_tried_71 v_X9_495 (c_X9_layTried hX ) (by decide) (by decide) ⟨Nat.zero_le _, Nat.zero_le _⟩ (Nat.le_of_ble_eq_true rfl) (fun G71 hp71 => ?_)
              obtain ⟨hz71, hq71⟩ := hp71
              try simp only [zuI_1, zuI_2, zuJ_1, zuJ_2, zuJ_3, zuP_1, zuP_2, zuP_3, zuC_1, zuC_2, reduceIte, Nat.reduceEqDiff, false_and, and_false, true_and, and_true, and_self, or_true, true_or, or_false, false_or] at hq71
              refine zs_aload_n (pc := 74) C dX9_tried_74 rfl ?_
              refine zs_iload_n (pc := 75) C dX9_tried_75 rfl ?_
              refine zs_puti (r := 1074) (pc := 76) C dX9_tried_76 w_X9_148 f_10_74 rfl (r_1074 0) (by omega) ?_
              refine zs_aload_n (pc := 79) C dX9_tried_79 rfl ?_
              refine zs_iload_n (pc := 80) C dX9_tried_80 rfl ?_
              refine zs_puti (r := 1075) (pc := 81) C dX9_tried_81 w_X9_482 f_10_75 rfl (r_1075 0) (by omega) ?_
              refine zs_aload_n (pc := 84) C dX9_tried_84 rfl ?_
              refine zs_iload_n (pc := 85) C dX9_tried_85 rfl ?_
              refine zs_iload (pc := 86) C dX9_tried_86 rfl ?_
              refine zVi2 (pc := 88) C dX9_tried_88 v_X9_498 (c_X9_runs hX (by repeat (first | assumption | refine MI_I (by decide) ?_ | refine MI_J ?_ | refine MI_sm (by assumption) (by decide) ?_ | refine MI_sn (by assumption) (by decide) ?_))) (by decide) (by decide) ⟨Nat.zero_le _, Nat.zero_le _⟩ (Nat.le_of_ble_eq_true rfl) (fun x88 G88 l88 u88 hp88 => ?_)
              obtain ⟨hz88, hq88⟩ := hp88
              try simp only [zuI_1, zuI_2, zuJ_1, zuJ_2, zuJ_3, zuP_1, zuP_2, zuP_3, zuC_1, zuC_2, reduceIte, Nat.reduceEqDiff, false_and, and_false, true_and, and_true, and_self, or_true, true_or, or_false, false_or] at hq88
              exact zs_iret (pc := 91) C hr hlk dX9_tried_91 ⟨by repeat (first | exact zsm_rf | assumption | refine zsm_C (by decide) ?_ | refine zsm_I (by decide) ?_ | refine zsm_J ?_ | refine zsm_c (by assumption) (by decide) ?_), trivial⟩
            · skip
              refine zs_iconst (pc := 68) C dX9_tried_68 (by decide) ?_
              exact zs_iret (pc := 69) C hr hlk dX9_tried_69 ⟨by repeat (first | exact zsm_rf | assumption | refine zsm_C (by decide) ?_ | refine zsm_I (by decide) ?_ | refine zsm_J ?_ | refine zsm_c (by assumption) (by decide) ?_), trivial⟩
          · skip
            refine zs_aload_n (pc := 53) C dX9_tried_53 rfl ?_
            refine zs_iload_n (pc := 54) C dX9_tried_54 rfl ?_
            refine zVip1 (pc := 55) C dX9_tried_55 v_X9_407 (c_X9_isSin hX ) (by decide) (by decide) ⟨Nat.zero_le _, Nat.zero_le _⟩ (Nat.le_of_ble_eq_true rfl) (fun x55 l55 u55 hp55 => ?_)
            have hq55 := hp55
            try simp only [zuI_1, zuI_2, zuJ_1, zuJ_2, zuJ_3, zuP_1, zuP_2, zuP_3, zuC_1, zuC_2, reduceIte, Nat.reduceEqDiff, false_and, and_false, true_and, and_true, and_self, or_true, true_or, or_false, false_or] at hq55
            refine zs_if_ne (tgt := 70) (pc := 58) C dX9_tried_58 (by decide) (fun h58 => ?_) (fun h58 => ?_)
            · skip
              refine zs_aload_n (pc := 70) C dX9_tried_70 rfl ?_
              refine zVv0 (pc := 71) C dX9_tried_71 v_X9_495 (c_X9_layTried hX ) (by decide) (by decide) ⟨Nat.zero_le _, Nat.zero_le _⟩ (Nat.le_of_ble_eq_true rfl) (fun G71 hp71 => ?_)
              obtain ⟨hz71, hq71⟩ := hp71
              try simp only [zuI_1, zuI_2, zuJ_1, zuJ_2, zuJ_3, zuP_1, zuP_2, zuP_3, zuC_1, zuC_2, reduceIte, Nat.reduceEqDiff, false_and, and_false, true_and, and_true, and_self, or_true, true_or, or_false, false_or] at hq71
              refine zs_aload_n (pc := 74) C dX9_tried_74 rfl ?_
              refine zs_iload_n (pc := 75) C dX9_tried_75 rfl ?_
              refine zs_puti (r := 1074) (pc := 76) C dX9_tried_76 w_X9_148 f_10_74 rfl (r_1074 0) (by omega) ?_
              refine zs_aload_n (pc := 79) C dX9_tried_79 rfl ?_
              refine zs_iload_n (pc := 80) C dX9_tried_80 rfl ?_
              refine zs_puti (r := 1075) (pc := 81) C dX9_tried_81 w_X9_482 f_10_75 rfl (r_1075 0) (by omega) ?_
              refine zs_aload_n (pc := 84) C dX9_tried_84 rfl ?_
              refine zs_iload_n (pc := 85) C dX9_tried_85 rfl ?_
              refine zs_iload (pc := 86) C dX9_tried_86 rfl ?_
              refine zVi2 (pc := 88) C dX9_tried_88 v_X9_498 (c_X9_runs hX (by repeat (first | assumption | refine MI_I (by decide) ?_ | refine MI_J ?_ | refine MI_sm (by assumption) (by decide) ?_ | refine MI_sn (by assumption) (by decide) ?_))) (by decide) (by decide) ⟨Nat.zero_le _, Nat.zero_le _⟩ (Nat.le_of_ble_eq_true rfl) (fun x88 G88 l88 u88 hp88 => ?_)
              obtain ⟨hz88, hq88⟩ := hp88
              try simp only [zuI_1, zuI_2, zuJ_1, zuJ_2, zuJ_3, zuP_1, zuP_2, zuP_3, zuC_1, zuC_2, reduceIte, Nat.reduceEqDiff, false_and, and_false, true_and, and_true, and_self, or_true, true_or, or_false, false_or] at hq88
              exact zs_iret (pc := 91) C hr hlk dX9_tried_91 ⟨by repeat (first | exact zsm_rf | assumption | refine zsm_C (by decide) ?_ | refine zsm_I (by decide) ?_ | refine zsm_J ?_ | refine zsm_c (by assumption) (by decide) ?_), trivial⟩
            · skip
              refine zs_goto (tgt := 68) (pc := 61) C dX9_tried_61 (by decide) ?_
              refine zs_iconst (pc := 68) C dX9_tried_68 (by decide) ?_
              exact zs_iret (pc := 69) C hr hlk dX9_tried_69 ⟨by repeat (first | exact zsm_rf | assumption | refine zsm_C (by decide) ?_ | refine zsm_I (by decide) ?_ | refine zsm_J ?_ | refine zsm_c (by assumption) (by decide) ?_), trivial⟩
        · skip
          refine zs_aload_n (pc := 37) C dX9_tried_37 rfl ?_
          refine zs_iload_n (pc := 38) C dX9_tried_38 rfl ?_
          refine zVip1 (pc := 39) C dX9_tried_39 v_X9_398 (c_X9_isPerson hX ) (by decide) (by decide) ⟨Nat.zero_le _, Nat.zero_le _⟩ (Nat.le_of_ble_eq_true rfl) (fun x39 l39 u39 hp39 => ?_)
          have hq39 := hp39
          try simp only [zuI_1, zuI_2, zuJ_1, zuJ_2, zuJ_3, zuP_1, zuP_2, zuP_3, zuC_1, zuC_2, reduceIte, Nat.reduceEqDiff, false_and, and_false, true_and, and_true, and_self, or_true, true_or, or_false, false_or] at hq39
          refine zs_if_ne (tgt := 70) (pc := 42) C dX9_tried_42 (by decide) (fun h42 => ?_) (fun h42 => ?_)
          · skip
            refine zs_aload_n (pc := 70) C dX9_tried_70 rfl ?_
            refine zVv0 (pc := 71) C dX9_tried_71 v_X9_495 (c_X9_layTried hX ) (by decide) (by decide) ⟨Nat.zero_le _, Nat.zero_le _⟩ (Nat.le_of_ble_eq_true rfl) (fun G71 hp71 => ?_)
            obtain ⟨hz71, hq71⟩ := hp71
            try simp only [zuI_1, zuI_2, zuJ_1, zuJ_2, zuJ_3, zuP_1, zuP_2, zuP_3, zuC_1, zuC_2, reduceIte, Nat.reduceEqDiff, false_and, and_false, true_and, and_true, and_self, or_true, true_or, or_false, false_or] at hq71
            refine zs_aload_n (pc := 74) C dX9_tried_74 rfl ?_
            refine zs_iload_n (pc := 75) C dX9_tried_75 rfl ?_
            refine zs_puti (r := 1074) (pc := 76) C dX9_tried_76 w_X9_148 f_10_74 rfl (r_1074 0) (by omega) ?_
            refine zs_aload_n (pc := 79) C dX9_tried_79 rfl ?_
            refine zs_iload_n (pc := 80) C dX9_tried_80 rfl ?_
            refine zs_puti (r := 1075) (pc := 81) C dX9_tried_81 w_X9_482 f_10_75 rfl (r_1075 0) (by omega) ?_
            refine zs_aload_n (pc := 84) C dX9_tried_84 rfl ?_
            refine zs_iload_n (pc := 85) C dX9_tried_85 rfl ?_
            refine zs_iload (pc := 86) C dX9_tried_86 rfl ?_
            refine zVi2 (pc := 88) C dX9_tried_88 v_X9_498 (c_X9_runs hX (by repeat (first | assumption | refine MI_I (by decide) ?_ | refine MI_J ?_ | refine MI_sm (by assumption) (by decide) ?_ | refine MI_sn (by assumption) (by decide) ?_))) (by decide) (by decide) ⟨Nat.zero_le _, Nat.zero_le _⟩ (Nat.le_of_ble_eq_true rfl) (fun x88 G88 l88 u88 hp88 => ?_)
            obtain ⟨hz88, hq88⟩ := hp88
            try simp only [zuI_1, zuI_2, zuJ_1, zuJ_2, zuJ_3, zuP_1, zuP_2, zuP_3, zuC_1, zuC_2, reduceIte, Nat.reduceEqDiff, false_and, and_false, true_and, and_true, and_self, or_true, true_or, or_false, false_or] at hq88
            exact zs_iret (pc := 91) C hr hlk dX9_tried_91 ⟨by repeat (first | exact zsm_rf | assumption | refine zsm_C (by decide) ?_ | refine zsm_I (by decide) ?_ | refine zsm_J ?_ | refine zsm_c (by assumption) (by decide) ?_), trivial⟩
          · skip
            refine zs_goto (tgt := 68) (pc := 45) C dX9_tried_45 (by decide) ?_
            refine zs_iconst (pc := 68) C dX9_tried_68 (by decide) ?_
            exact zs_iret (pc := 69) C hr hlk dX9_tried_69 ⟨by repeat (first | exact zsm_rf | assumption | refine zsm_C (by decide) ?_ | refine zsm_I (by decide) ?_ | refine zsm_J ?_ | refine zsm_c (by assumption) (by decide) ?_), trivial⟩
      · skip
        refine zs_iconst (pc := 30) C dX9_tried_30 (by decide) ?_
        exact zs_iret (pc := 31) C hr hlk dX9_tried_31 ⟨by repeat (first | exact zsm_rf | assumption | refine zsm_C (by decide) ?_ | refine zsm_I (by decide) ?_ | refine zsm_J ?_ | refine zsm_c (by assumption) (by decide) ?_), trivial⟩

set_option maxHeartbeats 4000000 in
set_option maxRecDepth 100000 in
theorem c_X9_fallsBy {l : Launch} {Γ : zΓ} {G : zH} {w : Nat} {c0 n : Int} (hX : zXs Γ) (hM : MI Γ w G)(hc : 0 ≤ c0 ∧ c0 ≤ 4)(hn : 0 ≤ n ∧ n ≤ 4)(hrw : ∀ i : Nat, i < 4 → G.1 2101 (Γ.2.1 w 76) i ≤ 19) : zMet l Γ yX9_fallsBy cX9_fallsBy 6 (some .int) 6 [zr 10 w, zi c0, zi n] G (zpi (fun x G' => zsm [2091, 2092, 2093, 2094, 2095, 2096, 2097, 2098, 2099, 2100, 2088, 2087, 2082, 2084, 2083, 2089, 1050, 2081, 2085, 2086, 2090, 1072, 1073, 1074] G G' ∧ True)) := by
  refine zMet_of RX9 hX (by decide) rfl (Nat.le_of_ble_eq_true rfl) ?_
  intro p e s m args below meth c C hr hlk
  show Z p l e (zrm 6) s m args below meth c Γ 6 0 0 (MQ below (zQc Γ (zpi (fun x G' => zsm [2091, 2092, 2093, 2094, 2095, 2096, 2097, 2098, 2099, 2100, 2088, 2087, 2082, 2084, 2083, 2089, 1050, 2081, 2085, 2086, 2090, 1072, 1073, 1074] G G' ∧ True))) args s 0 0 (zA Γ)) 0 [some (zr 10 w), some (zi c0), some (zi n), none, none, none] [] G
  refine zs_loc 1 rfl (fun ha1 hb1 => ?_)
  refine zs_loc 2 rfl (fun ha2 hb2 => ?_)
  refine zs_aload_n (pc := 0) C dX9_fallsBy_0 rfl ?_
  refine zVv0 (pc := 1) C dX9_fallsBy_1 v_X9_495 (c_X9_layTried hX ) (by decide) (by decide) ⟨Nat.zero_le _, Nat.zero_le _⟩ (Nat.le_of_ble_eq_true rfl) (fun G1 hp1 => ?_)
  obtain ⟨hz1, hq1⟩ := hp1
  refine zs_iconst (pc := 4) C dX9_fallsBy_4 (by decide) ?_
  refine zs_istore_n (pc := 5) C dX9_fallsBy_5 (by decide) ?_
  dsimp only [zset, zclr, znone]
  refine zs_iconst (pc := 6) C dX9_fallsBy_6 (by decide) ?_
  refine zs_istore (pc := 7) C dX9_fallsBy_7 (by decide) ?_
  dsimp only [zset, zclr, znone]
  have L9 : ∀ (nn : Nat) (x3 x4 : Int) (G1 : zH), (0 ≤ x4 ∧ x4 ≤ n) → (zsm [2091, 2092, 2093, 2094, 2095, 2096, 2097, 2098, 2099, 2100, 2088, 2087, 2082, 2084, 2083, 2089, 1050, 2081, 2085, 2086, 2090, 1072, 1073, 1074] G G1) → (n - x4).toNat < nn → Z p l e (zrm 6) s m args below meth c Γ 6 0 0 (MQ below (zQc Γ (zpi (fun x G' => zsm [2091, 2092, 2093, 2094, 2095, 2096, 2097, 2098, 2099, 2100, 2088, 2087, 2082, 2084, 2083, 2089, 1050, 2081, 2085, 2086, 2090, 1072, 1073, 1074] G G' ∧ True))) args s 0 0 (zA Γ)) 9 [some (zr 10 w), some (zi c0), some (zi n), some (zi x3), some (zi x4), none] [] G1 := by
    intro nn
    induction nn with
    | zero => intro x3 x4 G1 h9_0 h9_1 hm; exact absurd hm (Nat.not_lt_zero _)
    | succ nn ih9 =>
      intro x3 x4 G1 h9_0 h9_1 hm9
      refine zs_iload (pc := 9) C dX9_fallsBy_9 rfl ?_
      refine zs_iload_n (pc := 11) C dX9_fallsBy_11 rfl ?_
      refine zs_icmp_ge (tgt := 112) (pc := 12) C dX9_fallsBy_12 (by decide) (fun h12 => ?_) (fun h12 => ?_)
      · skip
        refine zs_aload_n (pc := 112) C dX9_fallsBy_112 rfl ?_
        refine zs_iconst (pc := 113) C dX9_fallsBy_113 (by decide) ?_
        refine zs_aload_n (pc := 114) C dX9_fallsBy_114 rfl ?_
        refine zs_getf (pc := 115) C dX9_fallsBy_115 w_X9_45 f_10_30 (by decide) ?_
        refine zs_iload_n (pc := 118) C dX9_fallsBy_118 rfl ?_
        refine zs_iald (r := 2067) (pc := 119) C dX9_fallsBy_119 a_67 (by decide) (by omega) rfl (r_2067 _) (fun v119 e119 l119 u119 => ?_)
        refine zVip2 (pc := 120) C dX9_fallsBy_120 v_X9_468 (c_X9_flourOf hX (by omega)) (by decide) (by decide) ⟨Nat.zero_le _, Nat.zero_le _⟩ (Nat.le_of_ble_eq_true rfl) (fun x120 l120 u120 hp120 => ?_)
        have hq120 := hp120
        refine zs_aload_n (pc := 123) C dX9_fallsBy_123 rfl ?_
        refine zs_getf (pc := 124) C dX9_fallsBy_124 w_X9_48 f_10_31 (by decide) ?_
        refine zs_iload_n (pc := 127) C dX9_fallsBy_127 rfl ?_
        refine zs_iald (r := 2068) (pc := 128) C dX9_fallsBy_128 a_68 (by decide) (by omega) rfl (r_2068 _) (fun v128 e128 l128 u128 => ?_)
        refine zs_icmp_lt (tgt := 136) (pc := 129) C dX9_fallsBy_129 (by decide) (fun h129 => ?_) (fun h129 => ?_)
        · skip
          refine zs_iconst (pc := 136) C dX9_fallsBy_136 (by decide) ?_
          exact zs_iret (pc := 137) C hr hlk dX9_fallsBy_137 ⟨by repeat (first | exact zsm_rf | assumption | refine zsm_C (by decide) ?_ | refine zsm_I (by decide) ?_ | refine zsm_J ?_ | refine zsm_c (by assumption) (by decide) ?_), trivial⟩
        · skip
          refine zs_iload_n (pc := 132) C dX9_fallsBy_132 rfl ?_
          refine zs_goto (tgt := 137) (pc := 133) C dX9_fallsBy_133 (by decide) ?_
          exact zs_iret (pc := 137) C hr hlk dX9_fallsBy_137 ⟨by repeat (first | exact zsm_rf | assumption | refine zsm_C (by decide) ?_ | refine zsm_I (by decide) ?_ | refine zsm_J ?_ | refine zsm_c (by assumption) (by decide) ?_), trivial⟩
      · skip
        refine zs_aload_n (pc := 15) C dX9_fallsBy_15 rfl ?_
        refine zs_iconst (pc := 16) C dX9_fallsBy_16 (by decide) ?_
        refine zVip1 (pc := 17) C dX9_fallsBy_17 v_X9_439 (c_X9_canGrind hX (by omega)) (by decide) (by decide) ⟨Nat.zero_le _, Nat.zero_le _⟩ (Nat.le_of_ble_eq_true rfl) (fun x17 l17 u17 hp17 => ?_)
        have hq17 := hp17
        refine zs_if_ne (tgt := 25) (pc := 20) C dX9_fallsBy_20 (by decide) (fun h20 => ?_) (fun h20 => ?_)
        · skip
          have hrr := hrw x4.toNat (by omega)
          have t2101 := zsm_at h9_1 2101 (Γ.2.1 w 76) x4.toNat (by decide)
          refine zs_bipush (pc := 25) C dX9_fallsBy_25 (by decide) (by decide) ?_
          refine zs_aload_n (pc := 27) C dX9_fallsBy_27 rfl ?_
          refine zs_getf (pc := 28) C dX9_fallsBy_28 w_X9_151 f_10_76 (by decide) ?_
          refine zs_iload (pc := 31) C dX9_fallsBy_31 rfl ?_
          refine zs_iald (r := 2101) (pc := 33) C dX9_fallsBy_33 a_101 (by decide) (by omega) rfl (r_2101 _) (fun v33 e33 l33 u33 => ?_)
          first | refine zs_iadd (pc := 34) C dX9_fallsBy_34 (by omega) ?_ | refine zs_iaddF (pc := 34) C dX9_fallsBy_34 (fun z34 hz341 hz342 => ?_)
          refine zs_istore (pc := 35) C dX9_fallsBy_35 (by decide) ?_
          dsimp only [zset, zclr, znone]
          refine zs_aload_n (pc := 37) C dX9_fallsBy_37 rfl ?_
          refine zs_getf (pc := 38) C dX9_fallsBy_38 w_X9_88 f_10_51 (by decide) ?_
          refine zs_iload (pc := 41) C dX9_fallsBy_41 rfl ?_
          refine zs_iald (r := 2081) (pc := 43) C dX9_fallsBy_43 a_81 (by decide) (by omega) rfl (r_2081 _) (fun v43 e43 l43 u43 => ?_)
          refine zs_aload_n (pc := 44) C dX9_fallsBy_44 rfl ?_
          refine zs_getf (pc := 45) C dX9_fallsBy_45 w_X9_91 f_10_52 (by decide) ?_
          refine zs_iload (pc := 48) C dX9_fallsBy_48 rfl ?_
          refine zs_iald (r := 2082) (pc := 50) C dX9_fallsBy_50 a_82 (by decide) (by omega) rfl (r_2082 _) (fun v50 e50 l50 u50 => ?_)
          refine zs_icmp_ne (tgt := 82) (pc := 51) C dX9_fallsBy_51 (by decide) (fun h51 => ?_) (fun h51 => ?_)
          · skip
            refine zs_aload_n (pc := 82) C dX9_fallsBy_82 rfl ?_
            refine zs_iconst (pc := 83) C dX9_fallsBy_83 (by decide) ?_
            refine zs_aload_n (pc := 84) C dX9_fallsBy_84 rfl ?_
            refine zs_getf (pc := 85) C dX9_fallsBy_85 w_X9_151 f_10_76 (by decide) ?_
            refine zs_iload (pc := 88) C dX9_fallsBy_88 rfl ?_
            refine zs_iald (r := 2101) (pc := 90) C dX9_fallsBy_90 a_101 (by decide) (by omega) rfl (r_2101 _) (fun v90 e90 l90 u90 => ?_)
            refine zs_iconst (pc := 91) C dX9_fallsBy_91 (by decide) ?_
            first | refine zs_idiv (pc := 92) C dX9_fallsBy_92 (by omega) (by omega) (fun hz921 hz922 => ?_) | refine zs_idivF (pc := 92) C dX9_fallsBy_92 (by omega) (fun z92 hz921 hz922 => ?_)
            refine zs_aload_n (pc := 93) C dX9_fallsBy_93 rfl ?_
            refine zs_getf (pc := 94) C dX9_fallsBy_94 w_X9_151 f_10_76 (by decide) ?_
            refine zs_iload (pc := 97) C dX9_fallsBy_97 rfl ?_
            refine zs_iald (r := 2101) (pc := 99) C dX9_fallsBy_99 a_101 (by decide) (by omega) rfl (r_2101 _) (fun v99 e99 l99 u99 => ?_)
            refine zs_iconst (pc := 100) C dX9_fallsBy_100 (by decide) ?_
            first | refine zs_irem (pc := 101) C dX9_fallsBy_101 (by omega) (by omega) (fun hz1011 hz1012 => ?_) | refine zs_iremF (pc := 101) C dX9_fallsBy_101 (by omega) (fun z101 hz1011 hz1012 => ?_)
            refine zVi3 (pc := 102) C dX9_fallsBy_102 v_X9_445 (c_X9_grinds hX (by repeat (first | assumption | refine MI_I (by decide) ?_ | refine MI_J ?_ | refine MI_sm (by assumption) (by decide) ?_ | refine MI_sn (by assumption) (by decide) ?_)) (by omega) (by omega) (by omega) (by omega) (by omega)) (by decide) (by decide) ⟨Nat.zero_le _, Nat.zero_le _⟩ (Nat.le_of_ble_eq_true rfl) (fun x102 G102 l102 u102 hp102 => ?_)
            obtain ⟨hz102, hq102⟩ := hp102
            refine zs_popi (pc := 105) C dX9_fallsBy_105 ?_
            first | refine zs_iinc (pc := 106) C dX9_fallsBy_106 rfl (by decide) (by omega) ?_ | refine zs_iincF (pc := 106) C dX9_fallsBy_106 rfl (by decide) (fun z106 hz1061 hz1062 => ?_)
            dsimp only [zset, zclr, znone]
            refine zs_goto (tgt := 9) (pc := 109) C dX9_fallsBy_109 (by decide) ?_
            exact zs_wk (ih9 _ _ _ (by first | omega | (simp only [zuI_1, zuI_2, zuJ_1, zuJ_2, zuJ_3, zuP_1, zuP_2, zuP_3, zuC_1, zuC_2, reduceIte, Nat.reduceEqDiff, false_and, and_false, true_and, and_true, and_self, or_true, true_or, or_false, false_or]; omega)) (by repeat (first | exact zsm_rf | assumption | refine zsm_C (by decide) ?_ | refine zsm_I (by decide) ?_ | refine zsm_J ?_ | refine zsm_c (by assumption) (by decide) ?_)) (by first | omega | (simp only [zuI_1, zuI_2, zuJ_1, zuJ_2, zuJ_3, zuP_1, zuP_2, zuP_3, zuC_1, zuC_2, reduceIte, Nat.reduceEqDiff, false_and, and_false, true_and, and_true, and_self, or_true, true_or, or_false, false_or]; omega))) (zwk_s rfl (zwk_s rfl (zwk_s rfl (zwk_s rfl (zwk_s rfl (zwk_n zwk_0))))))
          · skip
            refine zs_aload_n (pc := 54) C dX9_fallsBy_54 rfl ?_
            refine zs_getf (pc := 55) C dX9_fallsBy_55 w_X9_88 f_10_51 (by decide) ?_
            refine zs_iload (pc := 58) C dX9_fallsBy_58 rfl ?_
            refine zs_iald (r := 2081) (pc := 60) C dX9_fallsBy_60 a_81 (by decide) (by omega) rfl (r_2081 _) (fun v60 e60 l60 u60 => ?_)
            refine zs_bipush (pc := 61) C dX9_fallsBy_61 (by decide) (by decide) ?_
            refine zs_icmp_lt (tgt := 68) (pc := 63) C dX9_fallsBy_63 (by decide) (fun h63 => ?_) (fun h63 => ?_)
            · skip
              refine zs_aload_n (pc := 68) C dX9_fallsBy_68 rfl ?_
              refine zs_getf (pc := 69) C dX9_fallsBy_69 w_X9_88 f_10_51 (by decide) ?_
              refine zs_iload (pc := 72) C dX9_fallsBy_72 rfl ?_
              refine zs_dup2 (pc := 74) C dX9_fallsBy_74 ?_
              refine zs_iald (r := 2081) (pc := 75) C dX9_fallsBy_75 a_81 (by decide) (by omega) rfl (r_2081 _) (fun v75 e75 l75 u75 => ?_)
              refine zs_iconst (pc := 76) C dX9_fallsBy_76 (by decide) ?_
              first | refine zs_iadd (pc := 77) C dX9_fallsBy_77 (by omega) ?_ | refine zs_iaddF (pc := 77) C dX9_fallsBy_77 (fun z77 hz771 hz772 => ?_)
              refine zs_iast (r := 2081) (pc := 78) C dX9_fallsBy_78 a_81 (by decide) (by omega) rfl (r_2081 _) (by omega) ?_
              first | refine zs_iinc (pc := 79) C dX9_fallsBy_79 rfl (by decide) (by omega) ?_ | refine zs_iincF (pc := 79) C dX9_fallsBy_79 rfl (by decide) (fun z79 hz791 hz792 => ?_)
              dsimp only [zset, zclr, znone]
              refine zs_aload_n (pc := 82) C dX9_fallsBy_82 rfl ?_
              refine zs_iconst (pc := 83) C dX9_fallsBy_83 (by decide) ?_
              refine zs_aload_n (pc := 84) C dX9_fallsBy_84 rfl ?_
              refine zs_getf (pc := 85) C dX9_fallsBy_85 w_X9_151 f_10_76 (by decide) ?_
              refine zs_iload (pc := 88) C dX9_fallsBy_88 rfl ?_
              refine zs_iald (r := 2101) (pc := 90) C dX9_fallsBy_90 a_101 (by decide) (by omega) rfl (r_2101 _) (fun v90 e90 l90 u90 => ?_)
              try simp only [zuI_1, zuI_2, zuJ_1, zuJ_2, zuJ_3, zuP_1, zuP_2, zuP_3, zuC_1, zuC_2, reduceIte, Nat.reduceEqDiff, false_and, and_false, true_and, and_true, and_self, or_true, true_or, or_false, false_or] at e90
              refine zs_iconst (pc := 91) C dX9_fallsBy_91 (by decide) ?_
              first | refine zs_idiv (pc := 92) C dX9_fallsBy_92 (by omega) (by omega) (fun hz921 hz922 => ?_) | refine zs_idivF (pc := 92) C dX9_fallsBy_92 (by omega) (fun z92 hz921 hz922 => ?_)
              refine zs_aload_n (pc := 93) C dX9_fallsBy_93 rfl ?_
              refine zs_getf (pc := 94) C dX9_fallsBy_94 w_X9_151 f_10_76 (by decide) ?_
              refine zs_iload (pc := 97) C dX9_fallsBy_97 rfl ?_
              refine zs_iald (r := 2101) (pc := 99) C dX9_fallsBy_99 a_101 (by decide) (by omega) rfl (r_2101 _) (fun v99 e99 l99 u99 => ?_)
              try simp only [zuI_1, zuI_2, zuJ_1, zuJ_2, zuJ_3, zuP_1, zuP_2, zuP_3, zuC_1, zuC_2, reduceIte, Nat.reduceEqDiff, false_and, and_false, true_and, and_true, and_self, or_true, true_or, or_false, false_or] at e99
              refine zs_iconst (pc := 100) C dX9_fallsBy_100 (by decide) ?_
              first | refine zs_irem (pc := 101) C dX9_fallsBy_101 (by omega) (by omega) (fun hz1011 hz1012 => ?_) | refine zs_iremF (pc := 101) C dX9_fallsBy_101 (by omega) (fun z101 hz1011 hz1012 => ?_)
              refine zVi3 (pc := 102) C dX9_fallsBy_102 v_X9_445 (c_X9_grinds hX (by repeat (first | assumption | refine MI_I (by decide) ?_ | refine MI_J ?_ | refine MI_sm (by assumption) (by decide) ?_ | refine MI_sn (by assumption) (by decide) ?_)) (by first | omega | (simp only [zuI_1, zuI_2, zuJ_1, zuJ_2, zuJ_3, zuP_1, zuP_2, zuP_3, zuC_1, zuC_2, reduceIte, Nat.reduceEqDiff, false_and, and_false, true_and, and_true, and_self, or_true, true_or, or_false, false_or]; omega)) (by first | omega | (simp only [zuI_1, zuI_2, zuJ_1, zuJ_2, zuJ_3, zuP_1, zuP_2, zuP_3, zuC_1, zuC_2, reduceIte, Nat.reduceEqDiff, false_and, and_false, true_and, and_true, and_self, or_true, true_or, or_false, false_or]; omega)) (by first | omega | (simp only [zuI_1, zuI_2, zuJ_1, zuJ_2, zuJ_3, zuP_1, zuP_2, zuP_3, zuC_1, zuC_2, reduceIte, Nat.reduceEqDiff, false_and, and_false, true_and, and_true, and_self, or_true, true_or, or_false, false_or]; omega)) (by first | omega | (simp only [zuI_1, zuI_2, zuJ_1, zuJ_2, zuJ_3, zuP_1, zuP_2, zuP_3, zuC_1, zuC_2, reduceIte, Nat.reduceEqDiff, false_and, and_false, true_and, and_true, and_self, or_true, true_or, or_false, false_or]; omega)) (by first | omega | (simp only [zuI_1, zuI_2, zuJ_1, zuJ_2, zuJ_3, zuP_1, zuP_2, zuP_3, zuC_1, zuC_2, reduceIte, Nat.reduceEqDiff, false_and, and_false, true_and, and_true, and_self, or_true, true_or, or_false, false_or]; omega))) (by decide) (by decide) ⟨Nat.zero_le _, Nat.zero_le _⟩ (Nat.le_of_ble_eq_true rfl) (fun x102 G102 l102 u102 hp102 => ?_)
              obtain ⟨hz102, hq102⟩ := hp102
              try simp only [zuI_1, zuI_2, zuJ_1, zuJ_2, zuJ_3, zuP_1, zuP_2, zuP_3, zuC_1, zuC_2, reduceIte, Nat.reduceEqDiff, false_and, and_false, true_and, and_true, and_self, or_true, true_or, or_false, false_or] at hq102
              refine zs_popi (pc := 105) C dX9_fallsBy_105 ?_
              first | refine zs_iinc (pc := 106) C dX9_fallsBy_106 rfl (by decide) (by omega) ?_ | refine zs_iincF (pc := 106) C dX9_fallsBy_106 rfl (by decide) (fun z106 hz1061 hz1062 => ?_)
              dsimp only [zset, zclr, znone]
              refine zs_goto (tgt := 9) (pc := 109) C dX9_fallsBy_109 (by decide) ?_
              exact zs_wk (ih9 _ _ _ (by first | omega | (simp only [zuI_1, zuI_2, zuJ_1, zuJ_2, zuJ_3, zuP_1, zuP_2, zuP_3, zuC_1, zuC_2, reduceIte, Nat.reduceEqDiff, false_and, and_false, true_and, and_true, and_self, or_true, true_or, or_false, false_or]; omega)) (by repeat (first | exact zsm_rf | assumption | refine zsm_C (by decide) ?_ | refine zsm_I (by decide) ?_ | refine zsm_J ?_ | refine zsm_c (by assumption) (by decide) ?_)) (by first | omega | (simp only [zuI_1, zuI_2, zuJ_1, zuJ_2, zuJ_3, zuP_1, zuP_2, zuP_3, zuC_1, zuC_2, reduceIte, Nat.reduceEqDiff, false_and, and_false, true_and, and_true, and_self, or_true, true_or, or_false, false_or]; omega))) (zwk_s rfl (zwk_s rfl (zwk_s rfl (zwk_s rfl (zwk_s rfl (zwk_n zwk_0))))))
            · skip
              refine zs_iconst (pc := 66) C dX9_fallsBy_66 (by decide) ?_
              exact zs_iret (pc := 67) C hr hlk dX9_fallsBy_67 ⟨by repeat (first | exact zsm_rf | assumption | refine zsm_C (by decide) ?_ | refine zsm_I (by decide) ?_ | refine zsm_J ?_ | refine zsm_c (by assumption) (by decide) ?_), trivial⟩
        · skip
          refine zs_iconst (pc := 23) C dX9_fallsBy_23 (by decide) ?_
          exact zs_iret (pc := 24) C hr hlk dX9_fallsBy_24 ⟨by repeat (first | exact zsm_rf | assumption | refine zsm_C (by decide) ?_ | refine zsm_I (by decide) ?_ | refine zsm_J ?_ | refine zsm_c (by assumption) (by decide) ?_), trivial⟩
  exact zs_wk (L9 _ _ _ _ (by first | omega | (simp only [zuI_1, zuI_2, zuJ_1, zuJ_2, zuJ_3, zuP_1, zuP_2, zuP_3, zuC_1, zuC_2, reduceIte, Nat.reduceEqDiff, false_and, and_false, true_and, and_true, and_self, or_true, true_or, or_false, false_or]; omega)) (by repeat (first | exact zsm_rf | assumption | refine zsm_C (by decide) ?_ | refine zsm_I (by decide) ?_ | refine zsm_J ?_ | refine zsm_c (by assumption) (by decide) ?_)) (Nat.lt_succ_self _)) (zwk_s rfl (zwk_s rfl (zwk_s rfl (zwk_s rfl (zwk_s rfl (zwk_n zwk_0))))))

set_option maxHeartbeats 4000000 in
set_option maxRecDepth 100000 in
theorem c_X9_nextRow {l : Launch} {Γ : zΓ} {G : zH} {w : Nat} {n : Int} (hX : zXs Γ) (hn : 0 ≤ n ∧ n ≤ 4)(hrw : ∀ i : Nat, i < 4 → G.1 2101 (Γ.2.1 w 76) i ≤ 19) : zMet l Γ yX9_nextRow cX9_nextRow 3 (some .boolean) 0 [zr 10 w, zi n] G (zpi (fun x G' => zsm [2101] G G' ∧ ((x = 0 ∨ x = 1) ∧ (∀ i : Nat, i < 4 → G'.1 2101 (Γ.2.1 w 76) i ≤ 19) ∧ (x = 1 → zod 25 (G.1 2101 (Γ.2.1 w 76)) 4 < zod 25 (G'.1 2101 (Γ.2.1 w 76)) 4)))) := by
  refine zMet_of RX9 hX (by decide) rfl (Nat.le_of_ble_eq_true rfl) ?_
  intro p e s m args below meth c C hr hlk
  show Z p l e (zrm 0) s m args below meth c Γ 3 0 0 (MQ below (zQc Γ (zpi (fun x G' => zsm [2101] G G' ∧ ((x = 0 ∨ x = 1) ∧ (∀ i : Nat, i < 4 → G'.1 2101 (Γ.2.1 w 76) i ≤ 19) ∧ (x = 1 → zod 25 (G.1 2101 (Γ.2.1 w 76)) 4 < zod 25 (G'.1 2101 (Γ.2.1 w 76)) 4))))) args s 0 0 (zA Γ)) 0 [some (zr 10 w), some (zi n), none] [] G
  refine zs_loc 1 rfl (fun ha1 hb1 => ?_)
  refine zs_good (fun hGd0 => ?_)
  refine zs_iload_n (pc := 0) C dX9_nextRow_0 rfl ?_
  refine zs_iconst (pc := 1) C dX9_nextRow_1 (by decide) ?_
  first | refine zs_isub (pc := 2) C dX9_nextRow_2 (by omega) ?_ | refine zs_isubF (pc := 2) C dX9_nextRow_2 (fun z2 hz21 hz22 => ?_)
  refine zs_istore_n (pc := 3) C dX9_nextRow_3 (by decide) ?_
  dsimp only [zset, zclr, znone]
  have L4 : ∀ (nn : Nat) (x2 : Int) (G1 : zH), (-1 ≤ x2 ∧ x2 ≤ 3) → (zsm [2101] G G1) → (∀ i : Nat, (i : Int) ≤ x2 → G1.1 2101 (Γ.2.1 w 76) i = G.1 2101 (Γ.2.1 w 76) i) → (∀ i : Nat, i < 4 → G1.1 2101 (Γ.2.1 w 76) i ≤ 19) → (x2 + 1).toNat < nn → Z p l e (zrm 0) s m args below meth c Γ 3 0 0 (MQ below (zQc Γ (zpi (fun x G' => zsm [2101] G G' ∧ ((x = 0 ∨ x = 1) ∧ (∀ i : Nat, i < 4 → G'.1 2101 (Γ.2.1 w 76) i ≤ 19) ∧ (x = 1 → zod 25 (G.1 2101 (Γ.2.1 w 76)) 4 < zod 25 (G'.1 2101 (Γ.2.1 w 76)) 4))))) args s 0 0 (zA Γ)) 4 [some (zr 10 w), some (zi n), some (zi x2)] [] G1 := by
    intro nn
    induction nn with
    | zero => intro x2 G1 h4_0 h4_1 h4_2 h4_3 hm; exact absurd hm (Nat.not_lt_zero _)
    | succ nn ih4 =>
      intro x2 G1 h4_0 h4_1 h4_2 h4_3 hm4
      refine zs_iload_n (pc := 4) C dX9_nextRow_4 rfl ?_
      refine zs_if_lt (tgt := 86) (pc := 5) C dX9_nextRow_5 (by decide) (fun h5 => ?_) (fun h5 => ?_)
      · skip
        refine zs_iconst (pc := 86) C dX9_nextRow_86 (by decide) ?_
        exact zs_zret (pc := 87) C hr hlk dX9_nextRow_87 (by omega) ⟨by repeat (first | exact zsm_rf | assumption | refine zsm_C (by decide) ?_ | refine zsm_I (by decide) ?_ | refine zsm_J ?_ | refine zsm_c (by assumption) (by decide) ?_), by first | exact ⟨by omega, hh2, fun _ => hh3⟩ | exact ⟨by omega, h4_3, fun q => absurd q (by omega)⟩⟩
      · skip
        refine zs_good (fun hGd1 => ?_)
        have hx2 : (x2.toNat : Int) = x2 := by omega
        have hk2 := h4_2 x2.toNat (by omega)
        have hk3 := h4_3 x2.toNat (by omega)
        refine zs_aload_n (pc := 8) C dX9_nextRow_8 rfl ?_
        refine zs_getf (pc := 9) C dX9_nextRow_9 w_X9_151 f_10_76 (by decide) ?_
        refine zs_iload_n (pc := 12) C dX9_nextRow_12 rfl ?_
        refine zs_dup2 (pc := 13) C dX9_nextRow_13 ?_
        refine zs_iald (r := 2101) (pc := 14) C dX9_nextRow_14 a_101 (by decide) (by omega) rfl (r_2101 _) (fun v14 e14 l14 u14 => ?_)
        refine zs_iconst (pc := 15) C dX9_nextRow_15 (by decide) ?_
        first | refine zs_iadd (pc := 16) C dX9_nextRow_16 (by omega) ?_ | refine zs_iaddF (pc := 16) C dX9_nextRow_16 (fun z16 hz161 hz162 => ?_)
        refine zs_iast (r := 2101) (pc := 17) C dX9_nextRow_17 a_101 (by decide) (by omega) rfl (r_2101 _) (by omega) ?_
        refine zs_aload_n (pc := 18) C dX9_nextRow_18 rfl ?_
        refine zs_getf (pc := 19) C dX9_nextRow_19 w_X9_151 f_10_76 (by decide) ?_
        refine zs_iload_n (pc := 22) C dX9_nextRow_22 rfl ?_
        refine zs_iald (r := 2101) (pc := 23) C dX9_nextRow_23 a_101 (by decide) (by omega) rfl (r_2101 _) (fun v23 e23 l23 u23 => ?_)
        try simp only [zuI_1, zuI_2, zuJ_1, zuJ_2, zuJ_3, zuP_1, zuP_2, zuP_3, zuC_1, zuC_2, reduceIte, Nat.reduceEqDiff, false_and, and_false, true_and, and_true, and_self, or_true, true_or, or_false, false_or] at e23
        refine zs_iconst (pc := 24) C dX9_nextRow_24 (by decide) ?_
        first | refine zs_irem (pc := 25) C dX9_nextRow_25 (by omega) (by omega) (fun hz251 hz252 => ?_) | refine zs_iremF (pc := 25) C dX9_nextRow_25 (by omega) (fun z25 hz251 hz252 => ?_)
        refine zs_aload_n (pc := 26) C dX9_nextRow_26 rfl ?_
        refine zs_geti (r := 1012) (pc := 27) C dX9_nextRow_27 w_X9_258 f_10_12 rfl (r_1012 0) (fun v27 e27 l27 u27 => ?_)
        try simp only [zuI_1, zuI_2, zuJ_1, zuJ_2, zuJ_3, zuP_1, zuP_2, zuP_3, zuC_1, zuC_2, reduceIte, Nat.reduceEqDiff, false_and, and_false, true_and, and_true, and_self, or_true, true_or, or_false, false_or] at e27
        refine zs_icmp_lt (tgt := 56) (pc := 30) C dX9_nextRow_30 (by decide) (fun h30 => ?_) (fun h30 => ?_)
        · skip
          refine zs_aload_n (pc := 56) C dX9_nextRow_56 rfl ?_
          refine zs_getf (pc := 57) C dX9_nextRow_57 w_X9_151 f_10_76 (by decide) ?_
          refine zs_iload_n (pc := 60) C dX9_nextRow_60 rfl ?_
          refine zs_iald (r := 2101) (pc := 61) C dX9_nextRow_61 a_101 (by decide) (by omega) rfl (r_2101 _) (fun v61 e61 l61 u61 => ?_)
          try simp only [zuI_1, zuI_2, zuJ_1, zuJ_2, zuJ_3, zuP_1, zuP_2, zuP_3, zuC_1, zuC_2, reduceIte, Nat.reduceEqDiff, false_and, and_false, true_and, and_true, and_self, or_true, true_or, or_false, false_or] at e61
          refine zs_iconst (pc := 62) C dX9_nextRow_62 (by decide) ?_
          refine zs_aload_n (pc := 63) C dX9_nextRow_63 rfl ?_
          refine zs_geti (r := 1013) (pc := 64) C dX9_nextRow_64 w_X9_261 f_10_13 rfl (r_1013 0) (fun v64 e64 l64 u64 => ?_)
          try simp only [zuI_1, zuI_2, zuJ_1, zuJ_2, zuJ_3, zuP_1, zuP_2, zuP_3, zuC_1, zuC_2, reduceIte, Nat.reduceEqDiff, false_and, and_false, true_and, and_true, and_self, or_true, true_or, or_false, false_or] at e64
          first | refine zs_imul (pc := 67) C dX9_nextRow_67 (by omega) ?_ | refine zs_imulF (pc := 67) C dX9_nextRow_67 (fun z67 hz671 hz672 => ?_)
          refine zs_icmp_ge (tgt := 73) (pc := 68) C dX9_nextRow_68 (by decide) (fun h68 => ?_) (fun h68 => ?_)
          · skip
            refine zs_aload_n (pc := 73) C dX9_nextRow_73 rfl ?_
            refine zs_getf (pc := 74) C dX9_nextRow_74 w_X9_151 f_10_76 (by decide) ?_
            refine zs_iload_n (pc := 77) C dX9_nextRow_77 rfl ?_
            refine zs_iconst (pc := 78) C dX9_nextRow_78 (by decide) ?_
            refine zs_iast (r := 2101) (pc := 79) C dX9_nextRow_79 a_101 (by decide) (by omega) rfl (r_2101 _) (by omega) ?_
            first | refine zs_iinc (pc := 80) C dX9_nextRow_80 rfl (by decide) (by omega) ?_ | refine zs_iincF (pc := 80) C dX9_nextRow_80 rfl (by decide) (fun z80 hz801 hz802 => ?_)
            dsimp only [zset, zclr, znone]
            refine zs_goto (tgt := 4) (pc := 83) C dX9_nextRow_83 (by decide) ?_
            exact zs_wk (ih4 _ _ (by omega) (by repeat (first | exact zsm_rf | assumption | refine zsm_C (by decide) ?_ | refine zsm_I (by decide) ?_ | refine zsm_J ?_ | refine zsm_c (by assumption) (by decide) ?_)) (fun i hi => by have := h4_2 i (by omega); simp only [zuI_1, true_and]; (repeat (rw [if_neg (by omega)])); exact this) (fun i hi => by have := h4_3 i hi; simp only [zuI_1, true_and]; (repeat split) <;> omega) (by first | omega | (simp only [zuI_1, zuI_2, zuJ_1, zuJ_2, zuJ_3, zuP_1, zuP_2, zuP_3, zuC_1, zuC_2, reduceIte, Nat.reduceEqDiff, false_and, and_false, true_and, and_true, and_self, or_true, true_or, or_false, false_or]; omega))) (zwk_s rfl (zwk_s rfl (zwk_s rfl zwk_0)))
          · skip
            refine zs_good (fun hGd9 => ?_)
            refine zs_heap (P := fun G9 => zsm [2101] G1 G9 ∧ (∀ i : Nat, i < 4 → G9.1 2101 (Γ.2.1 w 76) i ≤ 19) ∧ zod 25 (G.1 2101 (Γ.2.1 w 76)) 4 < zod 25 (G9.1 2101 (Γ.2.1 w 76)) 4) ⟨(by repeat (first | exact zsm_rf | assumption | refine zsm_C (by decide) ?_ | refine zsm_I (by decide) ?_ | refine zsm_J ?_ | refine zsm_c (by assumption) (by decide) ?_)), fun i hi => ?_, zod_up4 (k := x2.toNat) (by omega) (row24 hGd0 _) (fun i => (row24 hGd9 _ i).1) ?_ (fun i hi => ?_)⟩ (fun G9 hG9 => ?_)
            · have := h4_3 i hi
              simp only [zuI_1, true_and]
              repeat split
              all_goals omega
            · simp only [zuI_1, true_and, and_self, if_true]
              omega
            · have := h4_2 i (by omega)
              simp only [zuI_1, true_and]
              repeat (rw [if_neg (by omega)])
              exact this
            obtain ⟨hh1, hh2, hh3⟩ := hG9
            refine zs_iconst (pc := 71) C dX9_nextRow_71 (by decide) ?_
            exact zs_zret (pc := 72) C hr hlk dX9_nextRow_72 (by omega) ⟨by repeat (first | exact zsm_rf | assumption | refine zsm_C (by decide) ?_ | refine zsm_I (by decide) ?_ | refine zsm_J ?_ | refine zsm_c (by assumption) (by decide) ?_), by first | exact ⟨by omega, hh2, fun _ => hh3⟩ | exact ⟨by omega, h4_3, fun q => absurd q (by omega)⟩⟩
        · skip
          refine zs_aload_n (pc := 33) C dX9_nextRow_33 rfl ?_
          refine zs_getf (pc := 34) C dX9_nextRow_34 w_X9_151 f_10_76 (by decide) ?_
          refine zs_iload_n (pc := 37) C dX9_nextRow_37 rfl ?_
          refine zs_aload_n (pc := 38) C dX9_nextRow_38 rfl ?_
          refine zs_getf (pc := 39) C dX9_nextRow_39 w_X9_151 f_10_76 (by decide) ?_
          refine zs_iload_n (pc := 42) C dX9_nextRow_42 rfl ?_
          refine zs_iald (r := 2101) (pc := 43) C dX9_nextRow_43 a_101 (by decide) (by omega) rfl (r_2101 _) (fun v43 e43 l43 u43 => ?_)
          try simp only [zuI_1, zuI_2, zuJ_1, zuJ_2, zuJ_3, zuP_1, zuP_2, zuP_3, zuC_1, zuC_2, reduceIte, Nat.reduceEqDiff, false_and, and_false, true_and, and_true, and_self, or_true, true_or, or_false, false_or] at e43
          refine zs_aload_n (pc := 44) C dX9_nextRow_44 rfl ?_
          refine zs_getf (pc := 45) C dX9_nextRow_45 w_X9_151 f_10_76 (by decide) ?_
          refine zs_iload_n (pc := 48) C dX9_nextRow_48 rfl ?_
          refine zs_iald (r := 2101) (pc := 49) C dX9_nextRow_49 a_101 (by decide) (by omega) rfl (r_2101 _) (fun v49 e49 l49 u49 => ?_)
          try simp only [zuI_1, zuI_2, zuJ_1, zuJ_2, zuJ_3, zuP_1, zuP_2, zuP_3, zuC_1, zuC_2, reduceIte, Nat.reduceEqDiff, false_and, and_false, true_and, and_true, and_self, or_true, true_or, or_false, false_or] at e49
          refine zs_iconst (pc := 50) C dX9_nextRow_50 (by decide) ?_
          first | refine zs_irem (pc := 51) C dX9_nextRow_51 (by omega) (by omega) (fun hz511 hz512 => ?_) | refine zs_iremF (pc := 51) C dX9_nextRow_51 (by omega) (fun z51 hz511 hz512 => ?_)
          first | refine zs_isub (pc := 52) C dX9_nextRow_52 (by omega) ?_ | refine zs_isubF (pc := 52) C dX9_nextRow_52 (fun z52 hz521 hz522 => ?_)
          refine zs_iconst (pc := 53) C dX9_nextRow_53 (by decide) ?_
          first | refine zs_iadd (pc := 54) C dX9_nextRow_54 (by omega) ?_ | refine zs_iaddF (pc := 54) C dX9_nextRow_54 (fun z54 hz541 hz542 => ?_)
          refine zs_iast (r := 2101) (pc := 55) C dX9_nextRow_55 a_101 (by decide) (by omega) rfl (r_2101 _) (by omega) ?_
          refine zs_aload_n (pc := 56) C dX9_nextRow_56 rfl ?_
          refine zs_getf (pc := 57) C dX9_nextRow_57 w_X9_151 f_10_76 (by decide) ?_
          refine zs_iload_n (pc := 60) C dX9_nextRow_60 rfl ?_
          refine zs_iald (r := 2101) (pc := 61) C dX9_nextRow_61 a_101 (by decide) (by omega) rfl (r_2101 _) (fun v61 e61 l61 u61 => ?_)
          try simp only [zuI_1, zuI_2, zuJ_1, zuJ_2, zuJ_3, zuP_1, zuP_2, zuP_3, zuC_1, zuC_2, reduceIte, Nat.reduceEqDiff, false_and, and_false, true_and, and_true, and_self, or_true, true_or, or_false, false_or] at e61
          refine zs_iconst (pc := 62) C dX9_nextRow_62 (by decide) ?_
          refine zs_aload_n (pc := 63) C dX9_nextRow_63 rfl ?_
          refine zs_geti (r := 1013) (pc := 64) C dX9_nextRow_64 w_X9_261 f_10_13 rfl (r_1013 0) (fun v64 e64 l64 u64 => ?_)
          try simp only [zuI_1, zuI_2, zuJ_1, zuJ_2, zuJ_3, zuP_1, zuP_2, zuP_3, zuC_1, zuC_2, reduceIte, Nat.reduceEqDiff, false_and, and_false, true_and, and_true, and_self, or_true, true_or, or_false, false_or] at e64
          first | refine zs_imul (pc := 67) C dX9_nextRow_67 (by omega) ?_ | refine zs_imulF (pc := 67) C dX9_nextRow_67 (fun z67 hz671 hz672 => ?_)
          refine zs_icmp_ge (tgt := 73) (pc := 68) C dX9_nextRow_68 (by decide) (fun h68 => ?_) (fun h68 => ?_)
          · skip
            refine zs_aload_n (pc := 73) C dX9_nextRow_73 rfl ?_
            refine zs_getf (pc := 74) C dX9_nextRow_74 w_X9_151 f_10_76 (by decide) ?_
            refine zs_iload_n (pc := 77) C dX9_nextRow_77 rfl ?_
            refine zs_iconst (pc := 78) C dX9_nextRow_78 (by decide) ?_
            refine zs_iast (r := 2101) (pc := 79) C dX9_nextRow_79 a_101 (by decide) (by omega) rfl (r_2101 _) (by omega) ?_
            first | refine zs_iinc (pc := 80) C dX9_nextRow_80 rfl (by decide) (by omega) ?_ | refine zs_iincF (pc := 80) C dX9_nextRow_80 rfl (by decide) (fun z80 hz801 hz802 => ?_)
            dsimp only [zset, zclr, znone]
            refine zs_goto (tgt := 4) (pc := 83) C dX9_nextRow_83 (by decide) ?_
            exact zs_wk (ih4 _ _ (by omega) (by repeat (first | exact zsm_rf | assumption | refine zsm_C (by decide) ?_ | refine zsm_I (by decide) ?_ | refine zsm_J ?_ | refine zsm_c (by assumption) (by decide) ?_)) (fun i hi => by have := h4_2 i (by omega); simp only [zuI_1, true_and]; (repeat (rw [if_neg (by omega)])); exact this) (fun i hi => by have := h4_3 i hi; simp only [zuI_1, true_and]; (repeat split) <;> omega) (by first | omega | (simp only [zuI_1, zuI_2, zuJ_1, zuJ_2, zuJ_3, zuP_1, zuP_2, zuP_3, zuC_1, zuC_2, reduceIte, Nat.reduceEqDiff, false_and, and_false, true_and, and_true, and_self, or_true, true_or, or_false, false_or]; omega))) (zwk_s rfl (zwk_s rfl (zwk_s rfl zwk_0)))
          · skip
            refine zs_good (fun hGd9 => ?_)
            refine zs_heap (P := fun G9 => zsm [2101] G1 G9 ∧ (∀ i : Nat, i < 4 → G9.1 2101 (Γ.2.1 w 76) i ≤ 19) ∧ zod 25 (G.1 2101 (Γ.2.1 w 76)) 4 < zod 25 (G9.1 2101 (Γ.2.1 w 76)) 4) ⟨(by repeat (first | exact zsm_rf | assumption | refine zsm_C (by decide) ?_ | refine zsm_I (by decide) ?_ | refine zsm_J ?_ | refine zsm_c (by assumption) (by decide) ?_)), fun i hi => ?_, zod_up4 (k := x2.toNat) (by omega) (row24 hGd0 _) (fun i => (row24 hGd9 _ i).1) ?_ (fun i hi => ?_)⟩ (fun G9 hG9 => ?_)
            · have := h4_3 i hi
              simp only [zuI_1, true_and]
              repeat split
              all_goals omega
            · simp only [zuI_1, true_and, and_self, if_true]
              omega
            · have := h4_2 i (by omega)
              simp only [zuI_1, true_and]
              repeat (rw [if_neg (by omega)])
              exact this
            obtain ⟨hh1, hh2, hh3⟩ := hG9
            refine zs_iconst (pc := 71) C dX9_nextRow_71 (by decide) ?_
            exact zs_zret (pc := 72) C hr hlk dX9_nextRow_72 (by omega) ⟨by repeat (first | exact zsm_rf | assumption | refine zsm_C (by decide) ?_ | refine zsm_I (by decide) ?_ | refine zsm_J ?_ | refine zsm_c (by assumption) (by decide) ?_), by first | exact ⟨by omega, hh2, fun _ => hh3⟩ | exact ⟨by omega, h4_3, fun q => absurd q (by omega)⟩⟩
  exact zs_wk (L4 _ _ _ (by omega) (by repeat (first | exact zsm_rf | assumption | refine zsm_C (by decide) ?_ | refine zsm_I (by decide) ?_ | refine zsm_J ?_ | refine zsm_c (by assumption) (by decide) ?_)) (fun i hi => rfl) hrw (Nat.lt_succ_self _)) (zwk_s rfl (zwk_s rfl (zwk_s rfl zwk_0)))

set_option maxHeartbeats 4000000 in
set_option maxRecDepth 100000 in
theorem c_X9_layPlan {l : Launch} {Γ : zΓ} {G : zH} {w : Nat} {c0 : Int} (hX : zXs Γ) (hM : MI Γ w G)(hc : 0 ≤ c0 ∧ c0 ≤ 4) : zMet l Γ yX9_layPlan cX9_layPlan 6 none 7 [zr 10 w, zi c0] G (zpv (fun G' => zsm [2091, 2092, 2093, 2094, 2095, 2096, 2097, 2098, 2099, 2100, 2088, 2087, 2082, 2084, 2083, 2089, 1050, 2081, 2085, 2086, 2090, 1072, 1073, 1074, 2101, 2102, 1078, 1079] G G' ∧ True)) := by
  refine zMet_of RX9 hX (by decide) rfl (Nat.le_of_ble_eq_true rfl) ?_
  intro p e s m args below meth c C hr hlk
  show Z p l e (zrm 7) s m args below meth c Γ 6 0 0 (MQ below (zQc Γ (zpv (fun G' => zsm [2091, 2092, 2093, 2094, 2095, 2096, 2097, 2098, 2099, 2100, 2088, 2087, 2082, 2084, 2083, 2089, 1050, 2081, 2085, 2086, 2090, 1072, 1073, 1074, 2101, 2102, 1078, 1079] G G' ∧ True))) args s 0 0 (zA Γ)) 0 [some (zr 10 w), some (zi c0), none, none, none, none] [] G
  refine zs_loc 1 rfl (fun ha1 hb1 => ?_)
  refine zs_aload_n (pc := 0) C dX9_layPlan_0 rfl ?_
  refine zs_iconst (pc := 1) C dX9_layPlan_1 (by decide) ?_
  refine zs_puti (r := 1078) (pc := 2) C dX9_layPlan_2 w_X9_501 f_10_78 rfl (r_1078 0) (by omega) ?_
  refine zs_iconst (pc := 5) C dX9_layPlan_5 (by decide) ?_
  refine zs_istore_n (pc := 6) C dX9_layPlan_6 (by decide) ?_
  dsimp only [zset, zclr, znone]
  have L7 : ∀ (nn : Nat) (x2 : Int) (G1 : zH), (0 ≤ x2 ∧ x2 ≤ 5) → (zsm [2091, 2092, 2093, 2094, 2095, 2096, 2097, 2098, 2099, 2100, 2088, 2087, 2082, 2084, 2083, 2089, 1050, 2081, 2085, 2086, 2090, 1072, 1073, 1074, 2101, 2102, 1078, 1079] G G1) → (5 - x2).toNat < nn → Z p l e (zrm 7) s m args below meth c Γ 6 0 0 (MQ below (zQc Γ (zpv (fun G' => zsm [2091, 2092, 2093, 2094, 2095, 2096, 2097, 2098, 2099, 2100, 2088, 2087, 2082, 2084, 2083, 2089, 1050, 2081, 2085, 2086, 2090, 1072, 1073, 1074, 2101, 2102, 1078, 1079] G G' ∧ True))) args s 0 0 (zA Γ)) 7 [some (zr 10 w), some (zi c0), some (zi x2), none, none, none] [] G1 := by
    intro nn
    induction nn with
    | zero => intro x2 G1 h7_0 h7_1 hm; exact absurd hm (Nat.not_lt_zero _)
    | succ nn ih7 =>
      intro x2 G1 h7_0 h7_1 hm7
      refine zs_iload_n (pc := 7) C dX9_layPlan_7 rfl ?_
      refine zs_iconst (pc := 8) C dX9_layPlan_8 (by decide) ?_
      refine zs_icmp_ge (tgt := 162) (pc := 9) C dX9_layPlan_9 (by decide) (fun h9 => ?_) (fun h9 => ?_)
      · skip
        exact zs_vret (pc := 162) C hr hlk dX9_layPlan_162 ⟨by repeat (first | exact zsm_rf | assumption | refine zsm_C (by decide) ?_ | refine zsm_I (by decide) ?_ | refine zsm_J ?_ | refine zsm_c (by assumption) (by decide) ?_), trivial⟩
      · skip
        refine zs_aload_n (pc := 12) C dX9_layPlan_12 rfl ?_
        refine zs_geti (r := 1078) (pc := 13) C dX9_layPlan_13 w_X9_501 f_10_78 rfl (r_1078 0) (fun v13 e13 l13 u13 => ?_)
        refine zs_if_eq (tgt := 162) (pc := 16) C dX9_layPlan_16 (by decide) (fun h16 => ?_) (fun h16 => ?_)
        · skip
          exact zs_vret (pc := 162) C hr hlk dX9_layPlan_162 ⟨by repeat (first | exact zsm_rf | assumption | refine zsm_C (by decide) ?_ | refine zsm_I (by decide) ?_ | refine zsm_J ?_ | refine zsm_c (by assumption) (by decide) ?_), trivial⟩
        · skip
          refine zs_iload_n (pc := 19) C dX9_layPlan_19 rfl ?_
          refine zs_if_eq (tgt := 37) (pc := 20) C dX9_layPlan_20 (by decide) (fun h20 => ?_) (fun h20 => ?_)
          · skip
            refine zs_iconst (pc := 37) C dX9_layPlan_37 (by decide) ?_
            refine zs_istore_n (pc := 38) C dX9_layPlan_38 (by decide) ?_
            dsimp only [zset, zclr, znone]
            have L39 : ∀ (nn : Nat) (x3 : Int) (G2 : zH), (0 ≤ x3 ∧ x3 ≤ 4) → (zsm [2091, 2092, 2093, 2094, 2095, 2096, 2097, 2098, 2099, 2100, 2088, 2087, 2082, 2084, 2083, 2089, 1050, 2081, 2085, 2086, 2090, 1072, 1073, 1074, 2101, 2102, 1078, 1079] G G2) → (∀ i : Nat, (i : Int) < x3 → G2.1 2101 (Γ.2.1 w 76) i ≤ 19) → (4 - x3).toNat < nn → Z p l e (zrm 7) s m args below meth c Γ 6 0 0 (MQ below (zQc Γ (zpv (fun G' => zsm [2091, 2092, 2093, 2094, 2095, 2096, 2097, 2098, 2099, 2100, 2088, 2087, 2082, 2084, 2083, 2089, 1050, 2081, 2085, 2086, 2090, 1072, 1073, 1074, 2101, 2102, 1078, 1079] G G' ∧ True))) args s 0 0 (zA Γ)) 39 [some (zr 10 w), some (zi c0), some (zi x2), some (zi x3), none, none] [] G2 := by
              intro nn
              induction nn with
              | zero => intro x3 G2 h39_0 h39_1 h39_2 hm; exact absurd hm (Nat.not_lt_zero _)
              | succ nn ih39 =>
                intro x3 G2 h39_0 h39_1 h39_2 hm39
                refine zs_iload_n (pc := 39) C dX9_layPlan_39 rfl ?_
                refine zs_iconst (pc := 40) C dX9_layPlan_40 (by decide) ?_
                refine zs_icmp_ge (tgt := 57) (pc := 41) C dX9_layPlan_41 (by decide) (fun h41 => ?_) (fun h41 => ?_)
                · skip
                  refine zs_iconst (pc := 57) C dX9_layPlan_57 (by decide) ?_
                  refine zs_istore_n (pc := 58) C dX9_layPlan_58 (by decide) ?_
                  dsimp only [zset, zclr, znone]
                  have L59 : ∀ (nn : Nat) (x3 : Int) (G3 : zH), (x3 = 0 ∨ x3 = 1) → (∀ i : Nat, i < 4 → G3.1 2101 (Γ.2.1 w 76) i ≤ 19) → (zsm [2091, 2092, 2093, 2094, 2095, 2096, 2097, 2098, 2099, 2100, 2088, 2087, 2082, 2084, 2083, 2089, 1050, 2081, 2085, 2086, 2090, 1072, 1073, 1074, 2101, 2102, 1078, 1079] G G3) → lpm x3 (zod 25 (G3.1 2101 (Γ.2.1 w 76)) 4) < nn → Z p l e (zrm 7) s m args below meth c Γ 6 0 0 (MQ below (zQc Γ (zpv (fun G' => zsm [2091, 2092, 2093, 2094, 2095, 2096, 2097, 2098, 2099, 2100, 2088, 2087, 2082, 2084, 2083, 2089, 1050, 2081, 2085, 2086, 2090, 1072, 1073, 1074, 2101, 2102, 1078, 1079] G G' ∧ True))) args s 0 0 (zA Γ)) 59 [some (zr 10 w), some (zi c0), some (zi x2), some (zi x3), none, none] [] G3 := by
                    intro nn
                    induction nn with
                    | zero => intro x3 G3 h59_0 h59_1 h59_2 hm; exact absurd hm (Nat.not_lt_zero _)
                    | succ nn ih59 =>
                      intro x3 G3 h59_0 h59_1 h59_2 hm59
                      refine zs_iload_n (pc := 59) C dX9_layPlan_59 rfl ?_
                      refine zs_if_eq (tgt := 156) (pc := 60) C dX9_layPlan_60 (by decide) (fun h60 => ?_) (fun h60 => ?_)
                      · skip
                        first | refine zs_iinc (pc := 156) C dX9_layPlan_156 rfl (by decide) (by omega) ?_ | refine zs_iincF (pc := 156) C dX9_layPlan_156 rfl (by decide) (fun z156 hz1561 hz1562 => ?_)
                        dsimp only [zset, zclr, znone]
                        refine zs_goto (tgt := 7) (pc := 159) C dX9_layPlan_159 (by decide) ?_
                        exact zs_wk (ih7 _ _ (by first | omega | (simp only [zuI_1, zuI_2, zuJ_1, zuJ_2, zuJ_3, zuP_1, zuP_2, zuP_3, zuC_1, zuC_2, reduceIte, Nat.reduceEqDiff, false_and, and_false, true_and, and_true, and_self, or_true, true_or, or_false, false_or]; omega)) (by repeat (first | exact zsm_rf | assumption | refine zsm_C (by decide) ?_ | refine zsm_I (by decide) ?_ | refine zsm_J ?_ | refine zsm_c (by assumption) (by decide) ?_)) (by first | omega | (simp only [zuI_1, zuI_2, zuJ_1, zuJ_2, zuJ_3, zuP_1, zuP_2, zuP_3, zuC_1, zuC_2, reduceIte, Nat.reduceEqDiff, false_and, and_false, true_and, and_true, and_self, or_true, true_or, or_false, false_or]; omega))) (zwk_s rfl (zwk_s rfl (zwk_s rfl (zwk_n (zwk_n (zwk_n zwk_0))))))
                      · skip
                        refine zs_aload_n (pc := 63) C dX9_layPlan_63 rfl ?_
                        refine zs_iload_n (pc := 64) C dX9_layPlan_64 rfl ?_
                        refine zs_iload_n (pc := 65) C dX9_layPlan_65 rfl ?_
                        refine zVi2 (pc := 66) C dX9_layPlan_66 v_X9_504 (c_X9_fallsBy hX (by repeat (first | assumption | refine MI_I (by decide) ?_ | refine MI_J ?_ | refine MI_sm (by assumption) (by decide) ?_ | refine MI_sn (by assumption) (by decide) ?_)) (by omega) (by omega) (by omega)) (by decide) (by decide) ⟨Nat.zero_le _, Nat.zero_le _⟩ (Nat.le_of_ble_eq_true rfl) (fun x66 G66 l66 u66 hp66 => ?_)
                        obtain ⟨hz66, hq66⟩ := hp66
                        refine zs_istore (pc := 69) C dX9_layPlan_69 (by decide) ?_
                        dsimp only [zset, zclr, znone]
                        have J132 : ∀ (G5 : zH), (zsm [2091, 2092, 2093, 2094, 2095, 2096, 2097, 2098, 2099, 2100, 2088, 2087, 2082, 2084, 2083, 2089, 1050, 2081, 2085, 2086, 2090, 1072, 1073, 1074, 2101, 2102, 1078, 1079] G G5) → (G5.1 2101 = G3.1 2101) → Z p l e (zrm 7) s m args below meth c Γ 6 0 0 (MQ below (zQc Γ (zpv (fun G' => zsm [2091, 2092, 2093, 2094, 2095, 2096, 2097, 2098, 2099, 2100, 2088, 2087, 2082, 2084, 2083, 2089, 1050, 2081, 2085, 2086, 2090, 1072, 1073, 1074, 2101, 2102, 1078, 1079] G G' ∧ True))) args s 0 0 (zA Γ)) 132 [some (zr 10 w), some (zi c0), some (zi x2), some (zi x3), none, none] [] G5 := by
                          intro G5 h132_0 h132_1
                          have hr5 : ∀ i : Nat, i < 4 → G5.1 2101 (Γ.2.1 w 76) i ≤ 19 := fun i hi => by rw [h132_1]; exact h59_1 i hi
                          refine zs_good (fun hGd5 => ?_)
                          have hzb := zod4_b (row24 hGd5 (Γ.2.1 w 76))
                          rw [h132_1] at hzb
                          refine zs_aload_n (pc := 132) C dX9_layPlan_132 rfl ?_
                          refine zs_geti (r := 1078) (pc := 133) C dX9_layPlan_133 w_X9_501 f_10_78 rfl (r_1078 0) (fun v133 e133 l133 u133 => ?_)
                          refine zs_if_eq (tgt := 151) (pc := 136) C dX9_layPlan_136 (by decide) (fun h136 => ?_) (fun h136 => ?_)
                          · skip
                            refine zs_iconst (pc := 151) C dX9_layPlan_151 (by decide) ?_
                            refine zs_istore_n (pc := 152) C dX9_layPlan_152 (by decide) ?_
                            dsimp only [zset, zclr, znone]
                            refine zs_goto (tgt := 59) (pc := 153) C dX9_layPlan_153 (by decide) ?_
                            exact zs_wk (ih59 _ _ (by omega) (by first | exact hq141.2.1 | exact hr5) (by repeat (first | exact zsm_rf | assumption | refine zsm_C (by decide) ?_ | refine zsm_I (by decide) ?_ | refine zsm_J ?_ | refine zsm_c (by assumption) (by decide) ?_)) (by first | exact lpm_s0 hm59 h60 hzb | exact lpm_s1 hm59 h60 (hq5 (by omega)) hzb6)) (zwk_s rfl (zwk_s rfl (zwk_s rfl (zwk_s rfl (zwk_n (zwk_n zwk_0))))))
                          · skip
                            refine zs_aload_n (pc := 139) C dX9_layPlan_139 rfl ?_
                            refine zs_iload_n (pc := 140) C dX9_layPlan_140 rfl ?_
                            refine zVi1 (pc := 141) C dX9_layPlan_141 v_X9_510 (c_X9_nextRow hX (by omega) (by omega)) (by decide) (by decide) ⟨Nat.zero_le _, Nat.zero_le _⟩ (Nat.le_of_ble_eq_true rfl) (fun x141 G141 l141 u141 hp141 => ?_)
                            obtain ⟨hz141, hq141⟩ := hp141
                            have hq5 := hq141.2.2
                            rw [h132_1] at hq5
                            refine zs_good (fun hGd6 => ?_)
                            have hzb6 := zod4_b (row24 hGd6 (Γ.2.1 w 76))
                            refine zs_if_eq (tgt := 151) (pc := 144) C dX9_layPlan_144 (by decide) (fun h144 => ?_) (fun h144 => ?_)
                            · skip
                              refine zs_iconst (pc := 151) C dX9_layPlan_151 (by decide) ?_
                              refine zs_istore_n (pc := 152) C dX9_layPlan_152 (by decide) ?_
                              dsimp only [zset, zclr, znone]
                              refine zs_goto (tgt := 59) (pc := 153) C dX9_layPlan_153 (by decide) ?_
                              exact zs_wk (ih59 _ _ (by omega) (by first | exact hq141.2.1 | exact hr5) (by repeat (first | exact zsm_rf | assumption | refine zsm_C (by decide) ?_ | refine zsm_I (by decide) ?_ | refine zsm_J ?_ | refine zsm_c (by assumption) (by decide) ?_)) (by first | exact lpm_s0 hm59 h60 hzb | exact lpm_s1 hm59 h60 (hq5 (by omega)) hzb6)) (zwk_s rfl (zwk_s rfl (zwk_s rfl (zwk_s rfl (zwk_n (zwk_n zwk_0))))))
                            · skip
                              refine zs_iconst (pc := 147) C dX9_layPlan_147 (by decide) ?_
                              refine zs_goto (tgt := 152) (pc := 148) C dX9_layPlan_148 (by decide) ?_
                              refine zs_istore_n (pc := 152) C dX9_layPlan_152 (by decide) ?_
                              dsimp only [zset, zclr, znone]
                              refine zs_goto (tgt := 59) (pc := 153) C dX9_layPlan_153 (by decide) ?_
                              exact zs_wk (ih59 _ _ (by omega) (by first | exact hq141.2.1 | exact hr5) (by repeat (first | exact zsm_rf | assumption | refine zsm_C (by decide) ?_ | refine zsm_I (by decide) ?_ | refine zsm_J ?_ | refine zsm_c (by assumption) (by decide) ?_)) (by first | exact lpm_s0 hm59 h60 hzb | exact lpm_s1 hm59 h60 (hq5 (by omega)) hzb6)) (zwk_s rfl (zwk_s rfl (zwk_s rfl (zwk_s rfl (zwk_n (zwk_n zwk_0))))))
                        refine zs_iload (pc := 71) C dX9_layPlan_71 rfl ?_
                        refine zs_if_lt (tgt := 132) (pc := 73) C dX9_layPlan_73 (by decide) (fun h73 => ?_) (fun h73 => ?_)
                        · skip
                          exact zs_wk (J132 _ (by repeat (first | exact zsm_rf | assumption | refine zsm_C (by decide) ?_ | refine zsm_I (by decide) ?_ | refine zsm_J ?_ | refine zsm_c (by assumption) (by decide) ?_)) (by first | exact hz66.1 2101 (by decide) | exact (h106_2.1 2101 (by decide)).trans (hz66.1 2101 (by decide)))) (zwk_s rfl (zwk_s rfl (zwk_s rfl (zwk_s rfl (zwk_n (zwk_n zwk_0))))))
                        · skip
                          refine zs_aload_n (pc := 76) C dX9_layPlan_76 rfl ?_
                          refine zs_geti (r := 1078) (pc := 77) C dX9_layPlan_77 w_X9_501 f_10_78 rfl (r_1078 0) (fun v77 e77 l77 u77 => ?_)
                          refine zs_if_lt (tgt := 92) (pc := 80) C dX9_layPlan_80 (by decide) (fun h80 => ?_) (fun h80 => ?_)
                          · skip
                            refine zs_aload_n (pc := 92) C dX9_layPlan_92 rfl ?_
                            refine zs_iload (pc := 93) C dX9_layPlan_93 rfl ?_
                            refine zs_puti (r := 1078) (pc := 95) C dX9_layPlan_95 w_X9_501 f_10_78 rfl (r_1078 0) (by omega) ?_
                            refine zs_aload_n (pc := 98) C dX9_layPlan_98 rfl ?_
                            refine zs_iload_n (pc := 99) C dX9_layPlan_99 rfl ?_
                            refine zs_puti (r := 1079) (pc := 100) C dX9_layPlan_100 w_X9_507 f_10_79 rfl (r_1079 0) (by omega) ?_
                            refine zs_iconst (pc := 103) C dX9_layPlan_103 (by decide) ?_
                            refine zs_istore (pc := 104) C dX9_layPlan_104 (by decide) ?_
                            dsimp only [zset, zclr, znone]
                            have L106 : ∀ (nn : Nat) (x5 : Int) (G6 : zH), (0 ≤ x5 ∧ x5 ≤ 4) → (zsm [2091, 2092, 2093, 2094, 2095, 2096, 2097, 2098, 2099, 2100, 2088, 2087, 2082, 2084, 2083, 2089, 1050, 2081, 2085, 2086, 2090, 1072, 1073, 1074, 2101, 2102, 1078, 1079] G G6) → (zsm [2102, 1078, 1079] G66 G6) → (4 - x5).toNat < nn → Z p l e (zrm 7) s m args below meth c Γ 6 0 0 (MQ below (zQc Γ (zpv (fun G' => zsm [2091, 2092, 2093, 2094, 2095, 2096, 2097, 2098, 2099, 2100, 2088, 2087, 2082, 2084, 2083, 2089, 1050, 2081, 2085, 2086, 2090, 1072, 1073, 1074, 2101, 2102, 1078, 1079] G G' ∧ True))) args s 0 0 (zA Γ)) 106 [some (zr 10 w), some (zi c0), some (zi x2), some (zi x3), none, some (zi x5)] [] G6 := by
                              intro nn
                              induction nn with
                              | zero => intro x5 G6 h106_0 h106_1 h106_2 hm; exact absurd hm (Nat.not_lt_zero _)
                              | succ nn ih106 =>
                                intro x5 G6 h106_0 h106_1 h106_2 hm106
                                refine zs_iload (pc := 106) C dX9_layPlan_106 rfl ?_
                                refine zs_iconst (pc := 108) C dX9_layPlan_108 (by decide) ?_
                                refine zs_icmp_ge (tgt := 132) (pc := 109) C dX9_layPlan_109 (by decide) (fun h109 => ?_) (fun h109 => ?_)
                                · skip
                                  exact zs_wk (J132 _ (by repeat (first | exact zsm_rf | assumption | refine zsm_C (by decide) ?_ | refine zsm_I (by decide) ?_ | refine zsm_J ?_ | refine zsm_c (by assumption) (by decide) ?_)) (by first | exact hz66.1 2101 (by decide) | exact (h106_2.1 2101 (by decide)).trans (hz66.1 2101 (by decide)))) (zwk_s rfl (zwk_s rfl (zwk_s rfl (zwk_s rfl (zwk_n (zwk_n zwk_0))))))
                                · skip
                                  refine zs_aload_n (pc := 112) C dX9_layPlan_112 rfl ?_
                                  refine zs_getf (pc := 113) C dX9_layPlan_113 w_X9_154 f_10_77 (by decide) ?_
                                  refine zs_iload (pc := 116) C dX9_layPlan_116 rfl ?_
                                  refine zs_aload_n (pc := 118) C dX9_layPlan_118 rfl ?_
                                  refine zs_getf (pc := 119) C dX9_layPlan_119 w_X9_151 f_10_76 (by decide) ?_
                                  refine zs_iload (pc := 122) C dX9_layPlan_122 rfl ?_
                                  refine zs_iald (r := 2101) (pc := 124) C dX9_layPlan_124 a_101 (by decide) (by omega) rfl (r_2101 _) (fun v124 e124 l124 u124 => ?_)
                                  refine zs_iast (r := 2102) (pc := 125) C dX9_layPlan_125 a_102 (by decide) (by omega) rfl (r_2102 _) (by omega) ?_
                                  first | refine zs_iinc (pc := 126) C dX9_layPlan_126 rfl (by decide) (by omega) ?_ | refine zs_iincF (pc := 126) C dX9_layPlan_126 rfl (by decide) (fun z126 hz1261 hz1262 => ?_)
                                  dsimp only [zset, zclr, znone]
                                  refine zs_goto (tgt := 106) (pc := 129) C dX9_layPlan_129 (by decide) ?_
                                  exact zs_wk (ih106 _ _ (by first | omega | (simp only [zuI_1, zuI_2, zuJ_1, zuJ_2, zuJ_3, zuP_1, zuP_2, zuP_3, zuC_1, zuC_2, reduceIte, Nat.reduceEqDiff, false_and, and_false, true_and, and_true, and_self, or_true, true_or, or_false, false_or]; omega)) (by repeat (first | exact zsm_rf | assumption | refine zsm_C (by decide) ?_ | refine zsm_I (by decide) ?_ | refine zsm_J ?_ | refine zsm_c (by assumption) (by decide) ?_)) (by repeat (first | exact zsm_rf | assumption | refine zsm_C (by decide) ?_ | refine zsm_I (by decide) ?_ | refine zsm_J ?_ | refine zsm_c (by assumption) (by decide) ?_)) (by first | omega | (simp only [zuI_1, zuI_2, zuJ_1, zuJ_2, zuJ_3, zuP_1, zuP_2, zuP_3, zuC_1, zuC_2, reduceIte, Nat.reduceEqDiff, false_and, and_false, true_and, and_true, and_self, or_true, true_or, or_false, false_or]; omega))) (zwk_s rfl (zwk_s rfl (zwk_s rfl (zwk_s rfl (zwk_n (zwk_s rfl zwk_0))))))
                            exact zs_wk (L106 _ _ _ (by first | omega | (simp only [zuI_1, zuI_2, zuJ_1, zuJ_2, zuJ_3, zuP_1, zuP_2, zuP_3, zuC_1, zuC_2, reduceIte, Nat.reduceEqDiff, false_and, and_false, true_and, and_true, and_self, or_true, true_or, or_false, false_or]; omega)) (by repeat (first | exact zsm_rf | assumption | refine zsm_C (by decide) ?_ | refine zsm_I (by decide) ?_ | refine zsm_J ?_ | refine zsm_c (by assumption) (by decide) ?_)) (by repeat (first | exact zsm_rf | assumption | refine zsm_C (by decide) ?_ | refine zsm_I (by decide) ?_ | refine zsm_J ?_ | refine zsm_c (by assumption) (by decide) ?_)) (Nat.lt_succ_self _)) (zwk_s rfl (zwk_s rfl (zwk_s rfl (zwk_s rfl (zwk_n (zwk_s rfl zwk_0))))))
                          · skip
                            refine zs_iload (pc := 83) C dX9_layPlan_83 rfl ?_
                            refine zs_aload_n (pc := 85) C dX9_layPlan_85 rfl ?_
                            refine zs_geti (r := 1078) (pc := 86) C dX9_layPlan_86 w_X9_501 f_10_78 rfl (r_1078 0) (fun v86 e86 l86 u86 => ?_)
                            refine zs_icmp_ge (tgt := 132) (pc := 89) C dX9_layPlan_89 (by decide) (fun h89 => ?_) (fun h89 => ?_)
                            · skip
                              exact zs_wk (J132 _ (by repeat (first | exact zsm_rf | assumption | refine zsm_C (by decide) ?_ | refine zsm_I (by decide) ?_ | refine zsm_J ?_ | refine zsm_c (by assumption) (by decide) ?_)) (by first | exact hz66.1 2101 (by decide) | exact (h106_2.1 2101 (by decide)).trans (hz66.1 2101 (by decide)))) (zwk_s rfl (zwk_s rfl (zwk_s rfl (zwk_s rfl (zwk_n (zwk_n zwk_0))))))
                            · skip
                              refine zs_aload_n (pc := 92) C dX9_layPlan_92 rfl ?_
                              refine zs_iload (pc := 93) C dX9_layPlan_93 rfl ?_
                              refine zs_puti (r := 1078) (pc := 95) C dX9_layPlan_95 w_X9_501 f_10_78 rfl (r_1078 0) (by omega) ?_
                              refine zs_aload_n (pc := 98) C dX9_layPlan_98 rfl ?_
                              refine zs_iload_n (pc := 99) C dX9_layPlan_99 rfl ?_
                              refine zs_puti (r := 1079) (pc := 100) C dX9_layPlan_100 w_X9_507 f_10_79 rfl (r_1079 0) (by omega) ?_
                              refine zs_iconst (pc := 103) C dX9_layPlan_103 (by decide) ?_
                              refine zs_istore (pc := 104) C dX9_layPlan_104 (by decide) ?_
                              dsimp only [zset, zclr, znone]
                              have L106 : ∀ (nn : Nat) (x5 : Int) (G6 : zH), (0 ≤ x5 ∧ x5 ≤ 4) → (zsm [2091, 2092, 2093, 2094, 2095, 2096, 2097, 2098, 2099, 2100, 2088, 2087, 2082, 2084, 2083, 2089, 1050, 2081, 2085, 2086, 2090, 1072, 1073, 1074, 2101, 2102, 1078, 1079] G G6) → (zsm [2102, 1078, 1079] G66 G6) → (4 - x5).toNat < nn → Z p l e (zrm 7) s m args below meth c Γ 6 0 0 (MQ below (zQc Γ (zpv (fun G' => zsm [2091, 2092, 2093, 2094, 2095, 2096, 2097, 2098, 2099, 2100, 2088, 2087, 2082, 2084, 2083, 2089, 1050, 2081, 2085, 2086, 2090, 1072, 1073, 1074, 2101, 2102, 1078, 1079] G G' ∧ True))) args s 0 0 (zA Γ)) 106 [some (zr 10 w), some (zi c0), some (zi x2), some (zi x3), none, some (zi x5)] [] G6 := by
                                intro nn
                                induction nn with
                                | zero => intro x5 G6 h106_0 h106_1 h106_2 hm; exact absurd hm (Nat.not_lt_zero _)
                                | succ nn ih106 =>
                                  intro x5 G6 h106_0 h106_1 h106_2 hm106
                                  refine zs_iload (pc := 106) C dX9_layPlan_106 rfl ?_
                                  refine zs_iconst (pc := 108) C dX9_layPlan_108 (by decide) ?_
                                  refine zs_icmp_ge (tgt := 132) (pc := 109) C dX9_layPlan_109 (by decide) (fun h109 => ?_) (fun h109 => ?_)
                                  · skip
                                    exact zs_wk (J132 _ (by repeat (first | exact zsm_rf | assumption | refine zsm_C (by decide) ?_ | refine zsm_I (by decide) ?_ | refine zsm_J ?_ | refine zsm_c (by assumption) (by decide) ?_)) (by first | exact hz66.1 2101 (by decide) | exact (h106_2.1 2101 (by decide)).trans (hz66.1 2101 (by decide)))) (zwk_s rfl (zwk_s rfl (zwk_s rfl (zwk_s rfl (zwk_n (zwk_n zwk_0))))))
                                  · skip
                                    refine zs_aload_n (pc := 112) C dX9_layPlan_112 rfl ?_
                                    refine zs_getf (pc := 113) C dX9_layPlan_113 w_X9_154 f_10_77 (by decide) ?_
                                    refine zs_iload (pc := 116) C dX9_layPlan_116 rfl ?_
                                    refine zs_aload_n (pc := 118) C dX9_layPlan_118 rfl ?_
                                    refine zs_getf (pc := 119) C dX9_layPlan_119 w_X9_151 f_10_76 (by decide) ?_
                                    refine zs_iload (pc := 122) C dX9_layPlan_122 rfl ?_
                                    refine zs_iald (r := 2101) (pc := 124) C dX9_layPlan_124 a_101 (by decide) (by omega) rfl (r_2101 _) (fun v124 e124 l124 u124 => ?_)
                                    refine zs_iast (r := 2102) (pc := 125) C dX9_layPlan_125 a_102 (by decide) (by omega) rfl (r_2102 _) (by omega) ?_
                                    first | refine zs_iinc (pc := 126) C dX9_layPlan_126 rfl (by decide) (by omega) ?_ | refine zs_iincF (pc := 126) C dX9_layPlan_126 rfl (by decide) (fun z126 hz1261 hz1262 => ?_)
                                    dsimp only [zset, zclr, znone]
                                    refine zs_goto (tgt := 106) (pc := 129) C dX9_layPlan_129 (by decide) ?_
                                    exact zs_wk (ih106 _ _ (by first | omega | (simp only [zuI_1, zuI_2, zuJ_1, zuJ_2, zuJ_3, zuP_1, zuP_2, zuP_3, zuC_1, zuC_2, reduceIte, Nat.reduceEqDiff, false_and, and_false, true_and, and_true, and_self, or_true, true_or, or_false, false_or]; omega)) (by repeat (first | exact zsm_rf | assumption | refine zsm_C (by decide) ?_ | refine zsm_I (by decide) ?_ | refine zsm_J ?_ | refine zsm_c (by assumption) (by decide) ?_)) (by repeat (first | exact zsm_rf | assumption | refine zsm_C (by decide) ?_ | refine zsm_I (by decide) ?_ | refine zsm_J ?_ | refine zsm_c (by assumption) (by decide) ?_)) (by first | omega | (simp only [zuI_1, zuI_2, zuJ_1, zuJ_2, zuJ_3, zuP_1, zuP_2, zuP_3, zuC_1, zuC_2, reduceIte, Nat.reduceEqDiff, false_and, and_false, true_and, and_true, and_self, or_true, true_or, or_false, false_or]; omega))) (zwk_s rfl (zwk_s rfl (zwk_s rfl (zwk_s rfl (zwk_n (zwk_s rfl zwk_0))))))
                              exact zs_wk (L106 _ _ _ (by first | omega | (simp only [zuI_1, zuI_2, zuJ_1, zuJ_2, zuJ_3, zuP_1, zuP_2, zuP_3, zuC_1, zuC_2, reduceIte, Nat.reduceEqDiff, false_and, and_false, true_and, and_true, and_self, or_true, true_or, or_false, false_or]; omega)) (by repeat (first | exact zsm_rf | assumption | refine zsm_C (by decide) ?_ | refine zsm_I (by decide) ?_ | refine zsm_J ?_ | refine zsm_c (by assumption) (by decide) ?_)) (by repeat (first | exact zsm_rf | assumption | refine zsm_C (by decide) ?_ | refine zsm_I (by decide) ?_ | refine zsm_J ?_ | refine zsm_c (by assumption) (by decide) ?_)) (Nat.lt_succ_self _)) (zwk_s rfl (zwk_s rfl (zwk_s rfl (zwk_s rfl (zwk_n (zwk_s rfl zwk_0))))))
                  exact zs_wk (L59 _ _ _ (by omega) (fun i hi => h39_2 i (by omega)) (by repeat (first | exact zsm_rf | assumption | refine zsm_C (by decide) ?_ | refine zsm_I (by decide) ?_ | refine zsm_J ?_ | refine zsm_c (by assumption) (by decide) ?_)) (Nat.lt_succ_self _)) (zwk_s rfl (zwk_s rfl (zwk_s rfl (zwk_s rfl (zwk_n (zwk_n zwk_0))))))
                · skip
                  refine zs_aload_n (pc := 44) C dX9_layPlan_44 rfl ?_
                  refine zs_getf (pc := 45) C dX9_layPlan_45 w_X9_151 f_10_76 (by decide) ?_
                  refine zs_iload_n (pc := 48) C dX9_layPlan_48 rfl ?_
                  refine zs_iconst (pc := 49) C dX9_layPlan_49 (by decide) ?_
                  refine zs_iast (r := 2101) (pc := 50) C dX9_layPlan_50 a_101 (by decide) (by omega) rfl (r_2101 _) (by omega) ?_
                  first | refine zs_iinc (pc := 51) C dX9_layPlan_51 rfl (by decide) (by omega) ?_ | refine zs_iincF (pc := 51) C dX9_layPlan_51 rfl (by decide) (fun z51 hz511 hz512 => ?_)
                  dsimp only [zset, zclr, znone]
                  refine zs_goto (tgt := 39) (pc := 54) C dX9_layPlan_54 (by decide) ?_
                  exact zs_wk (ih39 _ _ (by omega) (by repeat (first | exact zsm_rf | assumption | refine zsm_C (by decide) ?_ | refine zsm_I (by decide) ?_ | refine zsm_J ?_ | refine zsm_c (by assumption) (by decide) ?_)) (lowU h39_2 h39_0.1 (by decide)) (by first | omega | (simp only [zuI_1, zuI_2, zuJ_1, zuJ_2, zuJ_3, zuP_1, zuP_2, zuP_3, zuC_1, zuC_2, reduceIte, Nat.reduceEqDiff, false_and, and_false, true_and, and_true, and_self, or_true, true_or, or_false, false_or]; omega))) (zwk_s rfl (zwk_s rfl (zwk_s rfl (zwk_s rfl (zwk_n (zwk_n zwk_0))))))
            exact zs_wk (L39 _ _ _ (by omega) (by repeat (first | exact zsm_rf | assumption | refine zsm_C (by decide) ?_ | refine zsm_I (by decide) ?_ | refine zsm_J ?_ | refine zsm_c (by assumption) (by decide) ?_)) (fun i hi => absurd hi (by omega)) (Nat.lt_succ_self _)) (zwk_s rfl (zwk_s rfl (zwk_s rfl (zwk_s rfl (zwk_n (zwk_n zwk_0))))))
          · skip
            refine zs_aload_n (pc := 23) C dX9_layPlan_23 rfl ?_
            refine zs_geti (r := 1013) (pc := 24) C dX9_layPlan_24 w_X9_261 f_10_13 rfl (r_1013 0) (fun v24 e24 l24 u24 => ?_)
            refine zs_if_le (tgt := 162) (pc := 27) C dX9_layPlan_27 (by decide) (fun h27 => ?_) (fun h27 => ?_)
            · skip
              exact zs_vret (pc := 162) C hr hlk dX9_layPlan_162 ⟨by repeat (first | exact zsm_rf | assumption | refine zsm_C (by decide) ?_ | refine zsm_I (by decide) ?_ | refine zsm_J ?_ | refine zsm_c (by assumption) (by decide) ?_), trivial⟩
            · skip
              refine zs_aload_n (pc := 30) C dX9_layPlan_30 rfl ?_
              refine zs_geti (r := 1012) (pc := 31) C dX9_layPlan_31 w_X9_258 f_10_12 rfl (r_1012 0) (fun v31 e31 l31 u31 => ?_)
              refine zs_if_le (tgt := 162) (pc := 34) C dX9_layPlan_34 (by decide) (fun h34 => ?_) (fun h34 => ?_)
              · skip
                exact zs_vret (pc := 162) C hr hlk dX9_layPlan_162 ⟨by repeat (first | exact zsm_rf | assumption | refine zsm_C (by decide) ?_ | refine zsm_I (by decide) ?_ | refine zsm_J ?_ | refine zsm_c (by assumption) (by decide) ?_), trivial⟩
              · skip
                refine zs_iconst (pc := 37) C dX9_layPlan_37 (by decide) ?_
                refine zs_istore_n (pc := 38) C dX9_layPlan_38 (by decide) ?_
                dsimp only [zset, zclr, znone]
                have L39 : ∀ (nn : Nat) (x3 : Int) (G2 : zH), (0 ≤ x3 ∧ x3 ≤ 4) → (zsm [2091, 2092, 2093, 2094, 2095, 2096, 2097, 2098, 2099, 2100, 2088, 2087, 2082, 2084, 2083, 2089, 1050, 2081, 2085, 2086, 2090, 1072, 1073, 1074, 2101, 2102, 1078, 1079] G G2) → (∀ i : Nat, (i : Int) < x3 → G2.1 2101 (Γ.2.1 w 76) i ≤ 19) → (4 - x3).toNat < nn → Z p l e (zrm 7) s m args below meth c Γ 6 0 0 (MQ below (zQc Γ (zpv (fun G' => zsm [2091, 2092, 2093, 2094, 2095, 2096, 2097, 2098, 2099, 2100, 2088, 2087, 2082, 2084, 2083, 2089, 1050, 2081, 2085, 2086, 2090, 1072, 1073, 1074, 2101, 2102, 1078, 1079] G G' ∧ True))) args s 0 0 (zA Γ)) 39 [some (zr 10 w), some (zi c0), some (zi x2), some (zi x3), none, none] [] G2 := by
                  intro nn
                  induction nn with
                  | zero => intro x3 G2 h39_0 h39_1 h39_2 hm; exact absurd hm (Nat.not_lt_zero _)
                  | succ nn ih39 =>
                    intro x3 G2 h39_0 h39_1 h39_2 hm39
                    refine zs_iload_n (pc := 39) C dX9_layPlan_39 rfl ?_
                    refine zs_iconst (pc := 40) C dX9_layPlan_40 (by decide) ?_
                    refine zs_icmp_ge (tgt := 57) (pc := 41) C dX9_layPlan_41 (by decide) (fun h41 => ?_) (fun h41 => ?_)
                    · skip
                      refine zs_iconst (pc := 57) C dX9_layPlan_57 (by decide) ?_
                      refine zs_istore_n (pc := 58) C dX9_layPlan_58 (by decide) ?_
                      dsimp only [zset, zclr, znone]
                      have L59 : ∀ (nn : Nat) (x3 : Int) (G3 : zH), (x3 = 0 ∨ x3 = 1) → (∀ i : Nat, i < 4 → G3.1 2101 (Γ.2.1 w 76) i ≤ 19) → (zsm [2091, 2092, 2093, 2094, 2095, 2096, 2097, 2098, 2099, 2100, 2088, 2087, 2082, 2084, 2083, 2089, 1050, 2081, 2085, 2086, 2090, 1072, 1073, 1074, 2101, 2102, 1078, 1079] G G3) → lpm x3 (zod 25 (G3.1 2101 (Γ.2.1 w 76)) 4) < nn → Z p l e (zrm 7) s m args below meth c Γ 6 0 0 (MQ below (zQc Γ (zpv (fun G' => zsm [2091, 2092, 2093, 2094, 2095, 2096, 2097, 2098, 2099, 2100, 2088, 2087, 2082, 2084, 2083, 2089, 1050, 2081, 2085, 2086, 2090, 1072, 1073, 1074, 2101, 2102, 1078, 1079] G G' ∧ True))) args s 0 0 (zA Γ)) 59 [some (zr 10 w), some (zi c0), some (zi x2), some (zi x3), none, none] [] G3 := by
                        intro nn
                        induction nn with
                        | zero => intro x3 G3 h59_0 h59_1 h59_2 hm; exact absurd hm (Nat.not_lt_zero _)
                        | succ nn ih59 =>
                          intro x3 G3 h59_0 h59_1 h59_2 hm59
                          refine zs_iload_n (pc := 59) C dX9_layPlan_59 rfl ?_
                          refine zs_if_eq (tgt := 156) (pc := 60) C dX9_layPlan_60 (by decide) (fun h60 => ?_) (fun h60 => ?_)
                          · skip
                            first | refine zs_iinc (pc := 156) C dX9_layPlan_156 rfl (by decide) (by omega) ?_ | refine zs_iincF (pc := 156) C dX9_layPlan_156 rfl (by decide) (fun z156 hz1561 hz1562 => ?_)
                            dsimp only [zset, zclr, znone]
                            refine zs_goto (tgt := 7) (pc := 159) C dX9_layPlan_159 (by decide) ?_
                            exact zs_wk (ih7 _ _ (by first | omega | (simp only [zuI_1, zuI_2, zuJ_1, zuJ_2, zuJ_3, zuP_1, zuP_2, zuP_3, zuC_1, zuC_2, reduceIte, Nat.reduceEqDiff, false_and, and_false, true_and, and_true, and_self, or_true, true_or, or_false, false_or]; omega)) (by repeat (first | exact zsm_rf | assumption | refine zsm_C (by decide) ?_ | refine zsm_I (by decide) ?_ | refine zsm_J ?_ | refine zsm_c (by assumption) (by decide) ?_)) (by first | omega | (simp only [zuI_1, zuI_2, zuJ_1, zuJ_2, zuJ_3, zuP_1, zuP_2, zuP_3, zuC_1, zuC_2, reduceIte, Nat.reduceEqDiff, false_and, and_false, true_and, and_true, and_self, or_true, true_or, or_false, false_or]; omega))) (zwk_s rfl (zwk_s rfl (zwk_s rfl (zwk_n (zwk_n (zwk_n zwk_0))))))
                          · skip
                            refine zs_aload_n (pc := 63) C dX9_layPlan_63 rfl ?_
                            refine zs_iload_n (pc := 64) C dX9_layPlan_64 rfl ?_
                            refine zs_iload_n (pc := 65) C dX9_layPlan_65 rfl ?_
                            refine zVi2 (pc := 66) C dX9_layPlan_66 v_X9_504 (c_X9_fallsBy hX (by repeat (first | assumption | refine MI_I (by decide) ?_ | refine MI_J ?_ | refine MI_sm (by assumption) (by decide) ?_ | refine MI_sn (by assumption) (by decide) ?_)) (by omega) (by omega) (by omega)) (by decide) (by decide) ⟨Nat.zero_le _, Nat.zero_le _⟩ (Nat.le_of_ble_eq_true rfl) (fun x66 G66 l66 u66 hp66 => ?_)
                            obtain ⟨hz66, hq66⟩ := hp66
                            refine zs_istore (pc := 69) C dX9_layPlan_69 (by decide) ?_
                            dsimp only [zset, zclr, znone]
                            have J132 : ∀ (G5 : zH), (zsm [2091, 2092, 2093, 2094, 2095, 2096, 2097, 2098, 2099, 2100, 2088, 2087, 2082, 2084, 2083, 2089, 1050, 2081, 2085, 2086, 2090, 1072, 1073, 1074, 2101, 2102, 1078, 1079] G G5) → (G5.1 2101 = G3.1 2101) → Z p l e (zrm 7) s m args below meth c Γ 6 0 0 (MQ below (zQc Γ (zpv (fun G' => zsm [2091, 2092, 2093, 2094, 2095, 2096, 2097, 2098, 2099, 2100, 2088, 2087, 2082, 2084, 2083, 2089, 1050, 2081, 2085, 2086, 2090, 1072, 1073, 1074, 2101, 2102, 1078, 1079] G G' ∧ True))) args s 0 0 (zA Γ)) 132 [some (zr 10 w), some (zi c0), some (zi x2), some (zi x3), none, none] [] G5 := by
                              intro G5 h132_0 h132_1
                              have hr5 : ∀ i : Nat, i < 4 → G5.1 2101 (Γ.2.1 w 76) i ≤ 19 := fun i hi => by rw [h132_1]; exact h59_1 i hi
                              refine zs_good (fun hGd5 => ?_)
                              have hzb := zod4_b (row24 hGd5 (Γ.2.1 w 76))
                              rw [h132_1] at hzb
                              refine zs_aload_n (pc := 132) C dX9_layPlan_132 rfl ?_
                              refine zs_geti (r := 1078) (pc := 133) C dX9_layPlan_133 w_X9_501 f_10_78 rfl (r_1078 0) (fun v133 e133 l133 u133 => ?_)
                              refine zs_if_eq (tgt := 151) (pc := 136) C dX9_layPlan_136 (by decide) (fun h136 => ?_) (fun h136 => ?_)
                              · skip
                                refine zs_iconst (pc := 151) C dX9_layPlan_151 (by decide) ?_
                                refine zs_istore_n (pc := 152) C dX9_layPlan_152 (by decide) ?_
                                dsimp only [zset, zclr, znone]
                                refine zs_goto (tgt := 59) (pc := 153) C dX9_layPlan_153 (by decide) ?_
                                exact zs_wk (ih59 _ _ (by omega) (by first | exact hq141.2.1 | exact hr5) (by repeat (first | exact zsm_rf | assumption | refine zsm_C (by decide) ?_ | refine zsm_I (by decide) ?_ | refine zsm_J ?_ | refine zsm_c (by assumption) (by decide) ?_)) (by first | exact lpm_s0 hm59 h60 hzb | exact lpm_s1 hm59 h60 (hq5 (by omega)) hzb6)) (zwk_s rfl (zwk_s rfl (zwk_s rfl (zwk_s rfl (zwk_n (zwk_n zwk_0))))))
                              · skip
                                refine zs_aload_n (pc := 139) C dX9_layPlan_139 rfl ?_
                                refine zs_iload_n (pc := 140) C dX9_layPlan_140 rfl ?_
                                refine zVi1 (pc := 141) C dX9_layPlan_141 v_X9_510 (c_X9_nextRow hX (by omega) (by omega)) (by decide) (by decide) ⟨Nat.zero_le _, Nat.zero_le _⟩ (Nat.le_of_ble_eq_true rfl) (fun x141 G141 l141 u141 hp141 => ?_)
                                obtain ⟨hz141, hq141⟩ := hp141
                                have hq5 := hq141.2.2
                                rw [h132_1] at hq5
                                refine zs_good (fun hGd6 => ?_)
                                have hzb6 := zod4_b (row24 hGd6 (Γ.2.1 w 76))
                                refine zs_if_eq (tgt := 151) (pc := 144) C dX9_layPlan_144 (by decide) (fun h144 => ?_) (fun h144 => ?_)
                                · skip
                                  refine zs_iconst (pc := 151) C dX9_layPlan_151 (by decide) ?_
                                  refine zs_istore_n (pc := 152) C dX9_layPlan_152 (by decide) ?_
                                  dsimp only [zset, zclr, znone]
                                  refine zs_goto (tgt := 59) (pc := 153) C dX9_layPlan_153 (by decide) ?_
                                  exact zs_wk (ih59 _ _ (by omega) (by first | exact hq141.2.1 | exact hr5) (by repeat (first | exact zsm_rf | assumption | refine zsm_C (by decide) ?_ | refine zsm_I (by decide) ?_ | refine zsm_J ?_ | refine zsm_c (by assumption) (by decide) ?_)) (by first | exact lpm_s0 hm59 h60 hzb | exact lpm_s1 hm59 h60 (hq5 (by omega)) hzb6)) (zwk_s rfl (zwk_s rfl (zwk_s rfl (zwk_s rfl (zwk_n (zwk_n zwk_0))))))
                                · skip
                                  refine zs_iconst (pc := 147) C dX9_layPlan_147 (by decide) ?_
                                  refine zs_goto (tgt := 152) (pc := 148) C dX9_layPlan_148 (by decide) ?_
                                  refine zs_istore_n (pc := 152) C dX9_layPlan_152 (by decide) ?_
                                  dsimp only [zset, zclr, znone]
                                  refine zs_goto (tgt := 59) (pc := 153) C dX9_layPlan_153 (by decide) ?_
                                  exact zs_wk (ih59 _ _ (by omega) (by first | exact hq141.2.1 | exact hr5) (by repeat (first | exact zsm_rf | assumption | refine zsm_C (by decide) ?_ | refine zsm_I (by decide) ?_ | refine zsm_J ?_ | refine zsm_c (by assumption) (by decide) ?_)) (by first | exact lpm_s0 hm59 h60 hzb | exact lpm_s1 hm59 h60 (hq5 (by omega)) hzb6)) (zwk_s rfl (zwk_s rfl (zwk_s rfl (zwk_s rfl (zwk_n (zwk_n zwk_0))))))
                            refine zs_iload (pc := 71) C dX9_layPlan_71 rfl ?_
                            refine zs_if_lt (tgt := 132) (pc := 73) C dX9_layPlan_73 (by decide) (fun h73 => ?_) (fun h73 => ?_)
                            · skip
                              exact zs_wk (J132 _ (by repeat (first | exact zsm_rf | assumption | refine zsm_C (by decide) ?_ | refine zsm_I (by decide) ?_ | refine zsm_J ?_ | refine zsm_c (by assumption) (by decide) ?_)) (by first | exact hz66.1 2101 (by decide) | exact (h106_2.1 2101 (by decide)).trans (hz66.1 2101 (by decide)))) (zwk_s rfl (zwk_s rfl (zwk_s rfl (zwk_s rfl (zwk_n (zwk_n zwk_0))))))
                            · skip
                              refine zs_aload_n (pc := 76) C dX9_layPlan_76 rfl ?_
                              refine zs_geti (r := 1078) (pc := 77) C dX9_layPlan_77 w_X9_501 f_10_78 rfl (r_1078 0) (fun v77 e77 l77 u77 => ?_)
                              refine zs_if_lt (tgt := 92) (pc := 80) C dX9_layPlan_80 (by decide) (fun h80 => ?_) (fun h80 => ?_)
                              · skip
                                refine zs_aload_n (pc := 92) C dX9_layPlan_92 rfl ?_
                                refine zs_iload (pc := 93) C dX9_layPlan_93 rfl ?_
                                refine zs_puti (r := 1078) (pc := 95) C dX9_layPlan_95 w_X9_501 f_10_78 rfl (r_1078 0) (by omega) ?_
                                refine zs_aload_n (pc := 98) C dX9_layPlan_98 rfl ?_
                                refine zs_iload_n (pc := 99) C dX9_layPlan_99 rfl ?_
                                refine zs_puti (r := 1079) (pc := 100) C dX9_layPlan_100 w_X9_507 f_10_79 rfl (r_1079 0) (by omega) ?_
                                refine zs_iconst (pc := 103) C dX9_layPlan_103 (by decide) ?_
                                refine zs_istore (pc := 104) C dX9_layPlan_104 (by decide) ?_
                                dsimp only [zset, zclr, znone]
                                have L106 : ∀ (nn : Nat) (x5 : Int) (G6 : zH), (0 ≤ x5 ∧ x5 ≤ 4) → (zsm [2091, 2092, 2093, 2094, 2095, 2096, 2097, 2098, 2099, 2100, 2088, 2087, 2082, 2084, 2083, 2089, 1050, 2081, 2085, 2086, 2090, 1072, 1073, 1074, 2101, 2102, 1078, 1079] G G6) → (zsm [2102, 1078, 1079] G66 G6) → (4 - x5).toNat < nn → Z p l e (zrm 7) s m args below meth c Γ 6 0 0 (MQ below (zQc Γ (zpv (fun G' => zsm [2091, 2092, 2093, 2094, 2095, 2096, 2097, 2098, 2099, 2100, 2088, 2087, 2082, 2084, 2083, 2089, 1050, 2081, 2085, 2086, 2090, 1072, 1073, 1074, 2101, 2102, 1078, 1079] G G' ∧ True))) args s 0 0 (zA Γ)) 106 [some (zr 10 w), some (zi c0), some (zi x2), some (zi x3), none, some (zi x5)] [] G6 := by
                                  intro nn
                                  induction nn with
                                  | zero => intro x5 G6 h106_0 h106_1 h106_2 hm; exact absurd hm (Nat.not_lt_zero _)
                                  | succ nn ih106 =>
                                    intro x5 G6 h106_0 h106_1 h106_2 hm106
                                    refine zs_iload (pc := 106) C dX9_layPlan_106 rfl ?_
                                    refine zs_iconst (pc := 108) C dX9_layPlan_108 (by decide) ?_
                                    refine zs_icmp_ge (tgt := 132) (pc := 109) C dX9_layPlan_109 (by decide) (fun h109 => ?_) (fun h109 => ?_)
                                    · skip
                                      exact zs_wk (J132 _ (by repeat (first | exact zsm_rf | assumption | refine zsm_C (by decide) ?_ | refine zsm_I (by decide) ?_ | refine zsm_J ?_ | refine zsm_c (by assumption) (by decide) ?_)) (by first | exact hz66.1 2101 (by decide) | exact (h106_2.1 2101 (by decide)).trans (hz66.1 2101 (by decide)))) (zwk_s rfl (zwk_s rfl (zwk_s rfl (zwk_s rfl (zwk_n (zwk_n zwk_0))))))
                                    · skip
                                      refine zs_aload_n (pc := 112) C dX9_layPlan_112 rfl ?_
                                      refine zs_getf (pc := 113) C dX9_layPlan_113 w_X9_154 f_10_77 (by decide) ?_
                                      refine zs_iload (pc := 116) C dX9_layPlan_116 rfl ?_
                                      refine zs_aload_n (pc := 118) C dX9_layPlan_118 rfl ?_
                                      refine zs_getf (pc := 119) C dX9_layPlan_119 w_X9_151 f_10_76 (by decide) ?_
                                      refine zs_iload (pc := 122) C dX9_layPlan_122 rfl ?_
                                      refine zs_iald (r := 2101) (pc := 124) C dX9_layPlan_124 a_101 (by decide) (by omega) rfl (r_2101 _) (fun v124 e124 l124 u124 => ?_)
                                      refine zs_iast (r := 2102) (pc := 125) C dX9_layPlan_125 a_102 (by decide) (by omega) rfl (r_2102 _) (by omega) ?_
                                      first | refine zs_iinc (pc := 126) C dX9_layPlan_126 rfl (by decide) (by omega) ?_ | refine zs_iincF (pc := 126) C dX9_layPlan_126 rfl (by decide) (fun z126 hz1261 hz1262 => ?_)
                                      dsimp only [zset, zclr, znone]
                                      refine zs_goto (tgt := 106) (pc := 129) C dX9_layPlan_129 (by decide) ?_
                                      exact zs_wk (ih106 _ _ (by first | omega | (simp only [zuI_1, zuI_2, zuJ_1, zuJ_2, zuJ_3, zuP_1, zuP_2, zuP_3, zuC_1, zuC_2, reduceIte, Nat.reduceEqDiff, false_and, and_false, true_and, and_true, and_self, or_true, true_or, or_false, false_or]; omega)) (by repeat (first | exact zsm_rf | assumption | refine zsm_C (by decide) ?_ | refine zsm_I (by decide) ?_ | refine zsm_J ?_ | refine zsm_c (by assumption) (by decide) ?_)) (by repeat (first | exact zsm_rf | assumption | refine zsm_C (by decide) ?_ | refine zsm_I (by decide) ?_ | refine zsm_J ?_ | refine zsm_c (by assumption) (by decide) ?_)) (by first | omega | (simp only [zuI_1, zuI_2, zuJ_1, zuJ_2, zuJ_3, zuP_1, zuP_2, zuP_3, zuC_1, zuC_2, reduceIte, Nat.reduceEqDiff, false_and, and_false, true_and, and_true, and_self, or_true, true_or, or_false, false_or]; omega))) (zwk_s rfl (zwk_s rfl (zwk_s rfl (zwk_s rfl (zwk_n (zwk_s rfl zwk_0))))))
                                exact zs_wk (L106 _ _ _ (by first | omega | (simp only [zuI_1, zuI_2, zuJ_1, zuJ_2, zuJ_3, zuP_1, zuP_2, zuP_3, zuC_1, zuC_2, reduceIte, Nat.reduceEqDiff, false_and, and_false, true_and, and_true, and_self, or_true, true_or, or_false, false_or]; omega)) (by repeat (first | exact zsm_rf | assumption | refine zsm_C (by decide) ?_ | refine zsm_I (by decide) ?_ | refine zsm_J ?_ | refine zsm_c (by assumption) (by decide) ?_)) (by repeat (first | exact zsm_rf | assumption | refine zsm_C (by decide) ?_ | refine zsm_I (by decide) ?_ | refine zsm_J ?_ | refine zsm_c (by assumption) (by decide) ?_)) (Nat.lt_succ_self _)) (zwk_s rfl (zwk_s rfl (zwk_s rfl (zwk_s rfl (zwk_n (zwk_s rfl zwk_0))))))
                              · skip
                                refine zs_iload (pc := 83) C dX9_layPlan_83 rfl ?_
                                refine zs_aload_n (pc := 85) C dX9_layPlan_85 rfl ?_
                                refine zs_geti (r := 1078) (pc := 86) C dX9_layPlan_86 w_X9_501 f_10_78 rfl (r_1078 0) (fun v86 e86 l86 u86 => ?_)
                                refine zs_icmp_ge (tgt := 132) (pc := 89) C dX9_layPlan_89 (by decide) (fun h89 => ?_) (fun h89 => ?_)
                                · skip
                                  exact zs_wk (J132 _ (by repeat (first | exact zsm_rf | assumption | refine zsm_C (by decide) ?_ | refine zsm_I (by decide) ?_ | refine zsm_J ?_ | refine zsm_c (by assumption) (by decide) ?_)) (by first | exact hz66.1 2101 (by decide) | exact (h106_2.1 2101 (by decide)).trans (hz66.1 2101 (by decide)))) (zwk_s rfl (zwk_s rfl (zwk_s rfl (zwk_s rfl (zwk_n (zwk_n zwk_0))))))
                                · skip
                                  refine zs_aload_n (pc := 92) C dX9_layPlan_92 rfl ?_
                                  refine zs_iload (pc := 93) C dX9_layPlan_93 rfl ?_
                                  refine zs_puti (r := 1078) (pc := 95) C dX9_layPlan_95 w_X9_501 f_10_78 rfl (r_1078 0) (by omega) ?_
                                  refine zs_aload_n (pc := 98) C dX9_layPlan_98 rfl ?_
                                  refine zs_iload_n (pc := 99) C dX9_layPlan_99 rfl ?_
                                  refine zs_puti (r := 1079) (pc := 100) C dX9_layPlan_100 w_X9_507 f_10_79 rfl (r_1079 0) (by omega) ?_
                                  refine zs_iconst (pc := 103) C dX9_layPlan_103 (by decide) ?_
                                  refine zs_istore (pc := 104) C dX9_layPlan_104 (by decide) ?_
                                  dsimp only [zset, zclr, znone]
                                  have L106 : ∀ (nn : Nat) (x5 : Int) (G6 : zH), (0 ≤ x5 ∧ x5 ≤ 4) → (zsm [2091, 2092, 2093, 2094, 2095, 2096, 2097, 2098, 2099, 2100, 2088, 2087, 2082, 2084, 2083, 2089, 1050, 2081, 2085, 2086, 2090, 1072, 1073, 1074, 2101, 2102, 1078, 1079] G G6) → (zsm [2102, 1078, 1079] G66 G6) → (4 - x5).toNat < nn → Z p l e (zrm 7) s m args below meth c Γ 6 0 0 (MQ below (zQc Γ (zpv (fun G' => zsm [2091, 2092, 2093, 2094, 2095, 2096, 2097, 2098, 2099, 2100, 2088, 2087, 2082, 2084, 2083, 2089, 1050, 2081, 2085, 2086, 2090, 1072, 1073, 1074, 2101, 2102, 1078, 1079] G G' ∧ True))) args s 0 0 (zA Γ)) 106 [some (zr 10 w), some (zi c0), some (zi x2), some (zi x3), none, some (zi x5)] [] G6 := by
                                    intro nn
                                    induction nn with
                                    | zero => intro x5 G6 h106_0 h106_1 h106_2 hm; exact absurd hm (Nat.not_lt_zero _)
                                    | succ nn ih106 =>
                                      intro x5 G6 h106_0 h106_1 h106_2 hm106
                                      refine zs_iload (pc := 106) C dX9_layPlan_106 rfl ?_
                                      refine zs_iconst (pc := 108) C dX9_layPlan_108 (by decide) ?_
                                      refine zs_icmp_ge (tgt := 132) (pc := 109) C dX9_layPlan_109 (by decide) (fun h109 => ?_) (fun h109 => ?_)
                                      · skip
                                        exact zs_wk (J132 _ (by repeat (first | exact zsm_rf | assumption | refine zsm_C (by decide) ?_ | refine zsm_I (by decide) ?_ | refine zsm_J ?_ | refine zsm_c (by assumption) (by decide) ?_)) (by first | exact hz66.1 2101 (by decide) | exact (h106_2.1 2101 (by decide)).trans (hz66.1 2101 (by decide)))) (zwk_s rfl (zwk_s rfl (zwk_s rfl (zwk_s rfl (zwk_n (zwk_n zwk_0))))))
                                      · skip
                                        refine zs_aload_n (pc := 112) C dX9_layPlan_112 rfl ?_
                                        refine zs_getf (pc := 113) C dX9_layPlan_113 w_X9_154 f_10_77 (by decide) ?_
                                        refine zs_iload (pc := 116) C dX9_layPlan_116 rfl ?_
                                        refine zs_aload_n (pc := 118) C dX9_layPlan_118 rfl ?_
                                        refine zs_getf (pc := 119) C dX9_layPlan_119 w_X9_151 f_10_76 (by decide) ?_
                                        refine zs_iload (pc := 122) C dX9_layPlan_122 rfl ?_
                                        refine zs_iald (r := 2101) (pc := 124) C dX9_layPlan_124 a_101 (by decide) (by omega) rfl (r_2101 _) (fun v124 e124 l124 u124 => ?_)
                                        refine zs_iast (r := 2102) (pc := 125) C dX9_layPlan_125 a_102 (by decide) (by omega) rfl (r_2102 _) (by omega) ?_
                                        first | refine zs_iinc (pc := 126) C dX9_layPlan_126 rfl (by decide) (by omega) ?_ | refine zs_iincF (pc := 126) C dX9_layPlan_126 rfl (by decide) (fun z126 hz1261 hz1262 => ?_)
                                        dsimp only [zset, zclr, znone]
                                        refine zs_goto (tgt := 106) (pc := 129) C dX9_layPlan_129 (by decide) ?_
                                        exact zs_wk (ih106 _ _ (by first | omega | (simp only [zuI_1, zuI_2, zuJ_1, zuJ_2, zuJ_3, zuP_1, zuP_2, zuP_3, zuC_1, zuC_2, reduceIte, Nat.reduceEqDiff, false_and, and_false, true_and, and_true, and_self, or_true, true_or, or_false, false_or]; omega)) (by repeat (first | exact zsm_rf | assumption | refine zsm_C (by decide) ?_ | refine zsm_I (by decide) ?_ | refine zsm_J ?_ | refine zsm_c (by assumption) (by decide) ?_)) (by repeat (first | exact zsm_rf | assumption | refine zsm_C (by decide) ?_ | refine zsm_I (by decide) ?_ | refine zsm_J ?_ | refine zsm_c (by assumption) (by decide) ?_)) (by first | omega | (simp only [zuI_1, zuI_2, zuJ_1, zuJ_2, zuJ_3, zuP_1, zuP_2, zuP_3, zuC_1, zuC_2, reduceIte, Nat.reduceEqDiff, false_and, and_false, true_and, and_true, and_self, or_true, true_or, or_false, false_or]; omega))) (zwk_s rfl (zwk_s rfl (zwk_s rfl (zwk_s rfl (zwk_n (zwk_s rfl zwk_0))))))
                                  exact zs_wk (L106 _ _ _ (by first | omega | (simp only [zuI_1, zuI_2, zuJ_1, zuJ_2, zuJ_3, zuP_1, zuP_2, zuP_3, zuC_1, zuC_2, reduceIte, Nat.reduceEqDiff, false_and, and_false, true_and, and_true, and_self, or_true, true_or, or_false, false_or]; omega)) (by repeat (first | exact zsm_rf | assumption | refine zsm_C (by decide) ?_ | refine zsm_I (by decide) ?_ | refine zsm_J ?_ | refine zsm_c (by assumption) (by decide) ?_)) (by repeat (first | exact zsm_rf | assumption | refine zsm_C (by decide) ?_ | refine zsm_I (by decide) ?_ | refine zsm_J ?_ | refine zsm_c (by assumption) (by decide) ?_)) (Nat.lt_succ_self _)) (zwk_s rfl (zwk_s rfl (zwk_s rfl (zwk_s rfl (zwk_n (zwk_s rfl zwk_0))))))
                      exact zs_wk (L59 _ _ _ (by omega) (fun i hi => h39_2 i (by omega)) (by repeat (first | exact zsm_rf | assumption | refine zsm_C (by decide) ?_ | refine zsm_I (by decide) ?_ | refine zsm_J ?_ | refine zsm_c (by assumption) (by decide) ?_)) (Nat.lt_succ_self _)) (zwk_s rfl (zwk_s rfl (zwk_s rfl (zwk_s rfl (zwk_n (zwk_n zwk_0))))))
                    · skip
                      refine zs_aload_n (pc := 44) C dX9_layPlan_44 rfl ?_
                      refine zs_getf (pc := 45) C dX9_layPlan_45 w_X9_151 f_10_76 (by decide) ?_
                      refine zs_iload_n (pc := 48) C dX9_layPlan_48 rfl ?_
                      refine zs_iconst (pc := 49) C dX9_layPlan_49 (by decide) ?_
                      refine zs_iast (r := 2101) (pc := 50) C dX9_layPlan_50 a_101 (by decide) (by omega) rfl (r_2101 _) (by omega) ?_
                      first | refine zs_iinc (pc := 51) C dX9_layPlan_51 rfl (by decide) (by omega) ?_ | refine zs_iincF (pc := 51) C dX9_layPlan_51 rfl (by decide) (fun z51 hz511 hz512 => ?_)
                      dsimp only [zset, zclr, znone]
                      refine zs_goto (tgt := 39) (pc := 54) C dX9_layPlan_54 (by decide) ?_
                      exact zs_wk (ih39 _ _ (by omega) (by repeat (first | exact zsm_rf | assumption | refine zsm_C (by decide) ?_ | refine zsm_I (by decide) ?_ | refine zsm_J ?_ | refine zsm_c (by assumption) (by decide) ?_)) (lowU h39_2 h39_0.1 (by decide)) (by first | omega | (simp only [zuI_1, zuI_2, zuJ_1, zuJ_2, zuJ_3, zuP_1, zuP_2, zuP_3, zuC_1, zuC_2, reduceIte, Nat.reduceEqDiff, false_and, and_false, true_and, and_true, and_self, or_true, true_or, or_false, false_or]; omega))) (zwk_s rfl (zwk_s rfl (zwk_s rfl (zwk_s rfl (zwk_n (zwk_n zwk_0))))))
                exact zs_wk (L39 _ _ _ (by omega) (by repeat (first | exact zsm_rf | assumption | refine zsm_C (by decide) ?_ | refine zsm_I (by decide) ?_ | refine zsm_J ?_ | refine zsm_c (by assumption) (by decide) ?_)) (fun i hi => absurd hi (by omega)) (Nat.lt_succ_self _)) (zwk_s rfl (zwk_s rfl (zwk_s rfl (zwk_s rfl (zwk_n (zwk_n zwk_0))))))
  exact zs_wk (L7 _ _ _ (by first | omega | (simp only [zuI_1, zuI_2, zuJ_1, zuJ_2, zuJ_3, zuP_1, zuP_2, zuP_3, zuC_1, zuC_2, reduceIte, Nat.reduceEqDiff, false_and, and_false, true_and, and_true, and_self, or_true, true_or, or_false, false_or]; omega)) (by repeat (first | exact zsm_rf | assumption | refine zsm_C (by decide) ?_ | refine zsm_I (by decide) ?_ | refine zsm_J ?_ | refine zsm_c (by assumption) (by decide) ?_)) (Nat.lt_succ_self _)) (zwk_s rfl (zwk_s rfl (zwk_s rfl (zwk_n (zwk_n (zwk_n zwk_0))))))

set_option maxHeartbeats 4000000 in
set_option maxRecDepth 100000 in
theorem c_X9_plan {l : Launch} {Γ : zΓ} {G : zH} {w : Nat} {a b : Int} (hX : zXs Γ) (hM : MI Γ w G) : zMet l Γ yX9_plan cX9_plan 3 (some .int) 8 [zr 10 w, zi a, zi b] G (zpi (fun x G' => zsm [2091, 2092, 2093, 2094, 2095, 2096, 2097, 2098, 2099, 2100, 2088, 2087, 2082, 2084, 2083, 2089, 1050, 2081, 2085, 2086, 2090, 1072, 1073, 1074, 2101, 2102, 1078, 1079, 1002] G G' ∧ True)) := by
  refine zMet_of RX9 hX (by decide) rfl (Nat.le_of_ble_eq_true rfl) ?_
  intro p e s m args below meth c C hr hlk
  show Z p l e (zrm 8) s m args below meth c Γ 3 0 0 (MQ below (zQc Γ (zpi (fun x G' => zsm [2091, 2092, 2093, 2094, 2095, 2096, 2097, 2098, 2099, 2100, 2088, 2087, 2082, 2084, 2083, 2089, 1050, 2081, 2085, 2086, 2090, 1072, 1073, 1074, 2101, 2102, 1078, 1079, 1002] G G' ∧ True))) args s 0 0 (zA Γ)) 0 [some (zr 10 w), some (zi a), some (zi b)] [] G
  refine zs_loc 1 rfl (fun ha1 hb1 => ?_)
  refine zs_loc 2 rfl (fun ha2 hb2 => ?_)
  refine zs_aload_n (pc := 0) C dX9_plan_0 rfl ?_
  refine zs_iconst (pc := 1) C dX9_plan_1 (by decide) ?_
  refine zs_puti (r := 1002) (pc := 2) C dX9_plan_2 w_X9_178 f_10_2 rfl (r_1002 0) (by omega) ?_
  refine zs_aload_n (pc := 5) C dX9_plan_5 rfl ?_
  refine zs_iload_n (pc := 6) C dX9_plan_6 rfl ?_
  refine zVip1 (pc := 7) C dX9_plan_7 v_X9_471 (c_X9_isCake hX ) (by decide) (by decide) ⟨Nat.zero_le _, Nat.zero_le _⟩ (Nat.le_of_ble_eq_true rfl) (fun x7 l7 u7 hp7 => ?_)
  have hq7 := hp7
  try simp only [zuI_1, zuI_2, zuJ_1, zuJ_2, zuJ_3, zuP_1, zuP_2, zuP_3, zuC_1, zuC_2, reduceIte, Nat.reduceEqDiff, false_and, and_false, true_and, and_true, and_self, or_true, true_or, or_false, false_or] at hq7
  refine zs_if_eq (tgt := 31) (pc := 10) C dX9_plan_10 (by decide) (fun h10 => ?_) (fun h10 => ?_)
  · skip
    refine zs_iconst (pc := 31) C dX9_plan_31 (by decide) ?_
    exact zs_iret (pc := 32) C hr hlk dX9_plan_32 ⟨by repeat (first | exact zsm_rf | assumption | refine zsm_C (by decide) ?_ | refine zsm_I (by decide) ?_ | refine zsm_J ?_ | refine zsm_c (by assumption) (by decide) ?_), trivial⟩
  · skip
    refine zs_aload_n (pc := 13) C dX9_plan_13 rfl ?_
    refine zs_getf (pc := 14) C dX9_plan_14 w_X9_103 f_10_56 (by decide) ?_
    refine zs_iload_n (pc := 17) C dX9_plan_17 rfl ?_
    refine zs_iald (r := 2086) (pc := 18) C dX9_plan_18 a_86 (by decide) (by omega) rfl (r_2086 _) (fun v18 e18 l18 u18 => ?_)
    try simp only [zuI_1, zuI_2, zuJ_1, zuJ_2, zuJ_3, zuP_1, zuP_2, zuP_3, zuC_1, zuC_2, reduceIte, Nat.reduceEqDiff, false_and, and_false, true_and, and_true, and_self, or_true, true_or, or_false, false_or] at e18
    refine zs_if_ge (tgt := 31) (pc := 19) C dX9_plan_19 (by decide) (fun h19 => ?_) (fun h19 => ?_)
    · skip
      refine zs_iconst (pc := 31) C dX9_plan_31 (by decide) ?_
      exact zs_iret (pc := 32) C hr hlk dX9_plan_32 ⟨by repeat (first | exact zsm_rf | assumption | refine zsm_C (by decide) ?_ | refine zsm_I (by decide) ?_ | refine zsm_J ?_ | refine zsm_c (by assumption) (by decide) ?_), trivial⟩
    · skip
      refine zs_iload_n (pc := 22) C dX9_plan_22 rfl ?_
      refine zs_iconst (pc := 23) C dX9_plan_23 (by decide) ?_
      refine zs_iconst (pc := 24) C dX9_plan_24 (by decide) ?_
      refine zSip3 (pc := 25) C dX9_plan_25 s_X9_223 (c_X9_isIn hX ) (by decide) ⟨Nat.zero_le _, Nat.zero_le _⟩ (Nat.le_of_ble_eq_true rfl) (fun x25 l25 u25 hp25 => ?_)
      have hq25 := hp25
      try simp only [zuI_1, zuI_2, zuJ_1, zuJ_2, zuJ_3, zuP_1, zuP_2, zuP_3, zuC_1, zuC_2, reduceIte, Nat.reduceEqDiff, false_and, and_false, true_and, and_true, and_self, or_true, true_or, or_false, false_or] at hq25
      refine zs_if_ne (tgt := 33) (pc := 28) C dX9_plan_28 (by decide) (fun h28 => ?_) (fun h28 => ?_)
      · skip
        refine zs_aload_n (pc := 33) C dX9_plan_33 rfl ?_
        refine zs_iload_n (pc := 34) C dX9_plan_34 rfl ?_
        refine zVv1 (pc := 35) C dX9_plan_35 v_X9_513 (c_X9_layPlan hX (by repeat (first | assumption | refine MI_I (by decide) ?_ | refine MI_J ?_ | refine MI_sm (by assumption) (by decide) ?_ | refine MI_sn (by assumption) (by decide) ?_)) (by first | omega | (simp only [zuI_1, zuI_2, zuJ_1, zuJ_2, zuJ_3, zuP_1, zuP_2, zuP_3, zuC_1, zuC_2, reduceIte, Nat.reduceEqDiff, false_and, and_false, true_and, and_true, and_self, or_true, true_or, or_false, false_or]; omega))) (by decide) (by decide) ⟨Nat.zero_le _, Nat.zero_le _⟩ (Nat.le_of_ble_eq_true rfl) (fun G35 hp35 => ?_)
        obtain ⟨hz35, hq35⟩ := hp35
        try simp only [zuI_1, zuI_2, zuJ_1, zuJ_2, zuJ_3, zuP_1, zuP_2, zuP_3, zuC_1, zuC_2, reduceIte, Nat.reduceEqDiff, false_and, and_false, true_and, and_true, and_self, or_true, true_or, or_false, false_or] at hq35
        refine zs_aload_n (pc := 38) C dX9_plan_38 rfl ?_
        refine zs_geti (r := 1078) (pc := 39) C dX9_plan_39 w_X9_501 f_10_78 rfl (r_1078 0) (fun v39 e39 l39 u39 => ?_)
        refine zs_if_ge (tgt := 50) (pc := 42) C dX9_plan_42 (by decide) (fun h42 => ?_) (fun h42 => ?_)
        · skip
          refine zs_iload_n (pc := 50) C dX9_plan_50 rfl ?_
          refine zs_if_ne (tgt := 61) (pc := 51) C dX9_plan_51 (by decide) (fun h51 => ?_) (fun h51 => ?_)
          · skip
            refine zs_aload_n (pc := 61) C dX9_plan_61 rfl ?_
            refine zs_geti (r := 1079) (pc := 62) C dX9_plan_62 w_X9_507 f_10_79 rfl (r_1079 0) (fun v62 e62 l62 u62 => ?_)
            exact zs_iret (pc := 65) C hr hlk dX9_plan_65 ⟨by repeat (first | exact zsm_rf | assumption | refine zsm_C (by decide) ?_ | refine zsm_I (by decide) ?_ | refine zsm_J ?_ | refine zsm_c (by assumption) (by decide) ?_), trivial⟩
          · skip
            refine zs_aload_n (pc := 54) C dX9_plan_54 rfl ?_
            refine zs_geti (r := 1078) (pc := 55) C dX9_plan_55 w_X9_501 f_10_78 rfl (r_1078 0) (fun v55 e55 l55 u55 => ?_)
            refine zs_goto (tgt := 65) (pc := 58) C dX9_plan_58 (by decide) ?_
            exact zs_iret (pc := 65) C hr hlk dX9_plan_65 ⟨by repeat (first | exact zsm_rf | assumption | refine zsm_C (by decide) ?_ | refine zsm_I (by decide) ?_ | refine zsm_J ?_ | refine zsm_c (by assumption) (by decide) ?_), trivial⟩
        · skip
          refine zs_bipush (pc := 45) C dX9_plan_45 (by decide) (by decide) ?_
          refine zs_goto (tgt := 65) (pc := 47) C dX9_plan_47 (by decide) ?_
          exact zs_iret (pc := 65) C hr hlk dX9_plan_65 ⟨by repeat (first | exact zsm_rf | assumption | refine zsm_C (by decide) ?_ | refine zsm_I (by decide) ?_ | refine zsm_J ?_ | refine zsm_c (by assumption) (by decide) ?_), trivial⟩
      · skip
        refine zs_iconst (pc := 31) C dX9_plan_31 (by decide) ?_
        exact zs_iret (pc := 32) C hr hlk dX9_plan_32 ⟨by repeat (first | exact zsm_rf | assumption | refine zsm_C (by decide) ?_ | refine zsm_I (by decide) ?_ | refine zsm_J ?_ | refine zsm_c (by assumption) (by decide) ?_), trivial⟩

set_option maxHeartbeats 4000000 in
set_option maxRecDepth 100000 in
theorem c_X9_planned {l : Launch} {Γ : zΓ} {G : zH} {w : Nat} {a b q : Int} (hX : zXs Γ) (hM : MI Γ w G) : zMet l Γ yX9_planned cX9_planned 4 (some .int) 8 [zr 10 w, zi a, zi b, zi q] G (zpi (fun x G' => zsm [2091, 2092, 2093, 2094, 2095, 2096, 2097, 2098, 2099, 2100, 2088, 2087, 2082, 2084, 2083, 2089, 1050, 2081, 2085, 2086, 2090, 1072, 1073, 1074, 2101, 2102, 1078, 1079, 1002] G G' ∧ True)) := by
  refine zMet_of RX9 hX (by decide) rfl (Nat.le_of_ble_eq_true rfl) ?_
  intro p e s m args below meth c C hr hlk
  show Z p l e (zrm 8) s m args below meth c Γ 4 0 0 (MQ below (zQc Γ (zpi (fun x G' => zsm [2091, 2092, 2093, 2094, 2095, 2096, 2097, 2098, 2099, 2100, 2088, 2087, 2082, 2084, 2083, 2089, 1050, 2081, 2085, 2086, 2090, 1072, 1073, 1074, 2101, 2102, 1078, 1079, 1002] G G' ∧ True))) args s 0 0 (zA Γ)) 0 [some (zr 10 w), some (zi a), some (zi b), some (zi q)] [] G
  refine zs_loc 1 rfl (fun ha1 hb1 => ?_)
  refine zs_loc 2 rfl (fun ha2 hb2 => ?_)
  refine zs_loc 3 rfl (fun ha3 hb3 => ?_)
  refine zs_aload_n (pc := 0) C dX9_planned_0 rfl ?_
  refine zs_iconst (pc := 1) C dX9_planned_1 (by decide) ?_
  refine zs_puti (r := 1002) (pc := 2) C dX9_planned_2 w_X9_178 f_10_2 rfl (r_1002 0) (by omega) ?_
  refine zs_aload_n (pc := 5) C dX9_planned_5 rfl ?_
  refine zs_iload_n (pc := 6) C dX9_planned_6 rfl ?_
  refine zVip1 (pc := 7) C dX9_planned_7 v_X9_471 (c_X9_isCake hX ) (by decide) (by decide) ⟨Nat.zero_le _, Nat.zero_le _⟩ (Nat.le_of_ble_eq_true rfl) (fun x7 l7 u7 hp7 => ?_)
  have hq7 := hp7
  try simp only [zuI_1, zuI_2, zuJ_1, zuJ_2, zuJ_3, zuP_1, zuP_2, zuP_3, zuC_1, zuC_2, reduceIte, Nat.reduceEqDiff, false_and, and_false, true_and, and_true, and_self, or_true, true_or, or_false, false_or] at hq7
  refine zs_if_eq (tgt := 35) (pc := 10) C dX9_planned_10 (by decide) (fun h10 => ?_) (fun h10 => ?_)
  · skip
    refine zs_iconst (pc := 35) C dX9_planned_35 (by decide) ?_
    exact zs_iret (pc := 36) C hr hlk dX9_planned_36 ⟨by repeat (first | exact zsm_rf | assumption | refine zsm_C (by decide) ?_ | refine zsm_I (by decide) ?_ | refine zsm_J ?_ | refine zsm_c (by assumption) (by decide) ?_), trivial⟩
  · skip
    refine zs_aload_n (pc := 13) C dX9_planned_13 rfl ?_
    refine zs_getf (pc := 14) C dX9_planned_14 w_X9_103 f_10_56 (by decide) ?_
    refine zs_iload_n (pc := 17) C dX9_planned_17 rfl ?_
    refine zs_iald (r := 2086) (pc := 18) C dX9_planned_18 a_86 (by decide) (by omega) rfl (r_2086 _) (fun v18 e18 l18 u18 => ?_)
    try simp only [zuI_1, zuI_2, zuJ_1, zuJ_2, zuJ_3, zuP_1, zuP_2, zuP_3, zuC_1, zuC_2, reduceIte, Nat.reduceEqDiff, false_and, and_false, true_and, and_true, and_self, or_true, true_or, or_false, false_or] at e18
    refine zs_if_ge (tgt := 35) (pc := 19) C dX9_planned_19 (by decide) (fun h19 => ?_) (fun h19 => ?_)
    · skip
      refine zs_iconst (pc := 35) C dX9_planned_35 (by decide) ?_
      exact zs_iret (pc := 36) C hr hlk dX9_planned_36 ⟨by repeat (first | exact zsm_rf | assumption | refine zsm_C (by decide) ?_ | refine zsm_I (by decide) ?_ | refine zsm_J ?_ | refine zsm_c (by assumption) (by decide) ?_), trivial⟩
    · skip
      refine zs_iload_n (pc := 22) C dX9_planned_22 rfl ?_
      refine zs_if_lt (tgt := 35) (pc := 23) C dX9_planned_23 (by decide) (fun h23 => ?_) (fun h23 => ?_)
      · skip
        refine zs_iconst (pc := 35) C dX9_planned_35 (by decide) ?_
        exact zs_iret (pc := 36) C hr hlk dX9_planned_36 ⟨by repeat (first | exact zsm_rf | assumption | refine zsm_C (by decide) ?_ | refine zsm_I (by decide) ?_ | refine zsm_J ?_ | refine zsm_c (by assumption) (by decide) ?_), trivial⟩
      · skip
        refine zs_iload_n (pc := 26) C dX9_planned_26 rfl ?_
        refine zs_iconst (pc := 27) C dX9_planned_27 (by decide) ?_
        refine zs_iconst (pc := 28) C dX9_planned_28 (by decide) ?_
        refine zSip3 (pc := 29) C dX9_planned_29 s_X9_223 (c_X9_isIn hX ) (by decide) ⟨Nat.zero_le _, Nat.zero_le _⟩ (Nat.le_of_ble_eq_true rfl) (fun x29 l29 u29 hp29 => ?_)
        have hq29 := hp29
        try simp only [zuI_1, zuI_2, zuJ_1, zuJ_2, zuJ_3, zuP_1, zuP_2, zuP_3, zuC_1, zuC_2, reduceIte, Nat.reduceEqDiff, false_and, and_false, true_and, and_true, and_self, or_true, true_or, or_false, false_or] at hq29
        refine zs_if_ne (tgt := 37) (pc := 32) C dX9_planned_32 (by decide) (fun h32 => ?_) (fun h32 => ?_)
        · skip
          refine zs_aload_n (pc := 37) C dX9_planned_37 rfl ?_
          refine zs_iload_n (pc := 38) C dX9_planned_38 rfl ?_
          refine zVv1 (pc := 39) C dX9_planned_39 v_X9_513 (c_X9_layPlan hX (by repeat (first | assumption | refine MI_I (by decide) ?_ | refine MI_J ?_ | refine MI_sm (by assumption) (by decide) ?_ | refine MI_sn (by assumption) (by decide) ?_)) (by first | omega | (simp only [zuI_1, zuI_2, zuJ_1, zuJ_2, zuJ_3, zuP_1, zuP_2, zuP_3, zuC_1, zuC_2, reduceIte, Nat.reduceEqDiff, false_and, and_false, true_and, and_true, and_self, or_true, true_or, or_false, false_or]; omega))) (by decide) (by decide) ⟨Nat.zero_le _, Nat.zero_le _⟩ (Nat.le_of_ble_eq_true rfl) (fun G39 hp39 => ?_)
          obtain ⟨hz39, hq39⟩ := hp39
          try simp only [zuI_1, zuI_2, zuJ_1, zuJ_2, zuJ_3, zuP_1, zuP_2, zuP_3, zuC_1, zuC_2, reduceIte, Nat.reduceEqDiff, false_and, and_false, true_and, and_true, and_self, or_true, true_or, or_false, false_or] at hq39
          refine zs_aload_n (pc := 42) C dX9_planned_42 rfl ?_
          refine zs_geti (r := 1078) (pc := 43) C dX9_planned_43 w_X9_501 f_10_78 rfl (r_1078 0) (fun v43 e43 l43 u43 => ?_)
          refine zs_if_lt (tgt := 57) (pc := 46) C dX9_planned_46 (by decide) (fun h46 => ?_) (fun h46 => ?_)
          · skip
            refine zs_bipush (pc := 57) C dX9_planned_57 (by decide) (by decide) ?_
            exact zs_iret (pc := 59) C hr hlk dX9_planned_59 ⟨by repeat (first | exact zsm_rf | assumption | refine zsm_C (by decide) ?_ | refine zsm_I (by decide) ?_ | refine zsm_J ?_ | refine zsm_c (by assumption) (by decide) ?_), trivial⟩
          · skip
            refine zs_iload_n (pc := 49) C dX9_planned_49 rfl ?_
            refine zs_aload_n (pc := 50) C dX9_planned_50 rfl ?_
            refine zs_geti (r := 1079) (pc := 51) C dX9_planned_51 w_X9_507 f_10_79 rfl (r_1079 0) (fun v51 e51 l51 u51 => ?_)
            refine zs_icmp_lt (tgt := 60) (pc := 54) C dX9_planned_54 (by decide) (fun h54 => ?_) (fun h54 => ?_)
            · skip
              refine zs_iload_n (pc := 60) C dX9_planned_60 rfl ?_
              refine zs_if_ne (tgt := 75) (pc := 61) C dX9_planned_61 (by decide) (fun h61 => ?_) (fun h61 => ?_)
              · skip
                refine zs_aload_n (pc := 75) C dX9_planned_75 rfl ?_
                refine zs_getf (pc := 76) C dX9_planned_76 w_X9_154 f_10_77 (by decide) ?_
                refine zs_iload_n (pc := 79) C dX9_planned_79 rfl ?_
                refine zs_iald (r := 2102) (pc := 80) C dX9_planned_80 a_102 (by decide) (by omega) rfl (r_2102 _) (fun v80 e80 l80 u80 => ?_)
                refine zs_iconst (pc := 81) C dX9_planned_81 (by decide) ?_
                first | refine zs_irem (pc := 82) C dX9_planned_82 (by omega) (by omega) (fun hz821 hz822 => ?_) | refine zs_iremF (pc := 82) C dX9_planned_82 (by omega) (fun z82 hz821 hz822 => ?_)
                exact zs_iret (pc := 83) C hr hlk dX9_planned_83 ⟨by repeat (first | exact zsm_rf | assumption | refine zsm_C (by decide) ?_ | refine zsm_I (by decide) ?_ | refine zsm_J ?_ | refine zsm_c (by assumption) (by decide) ?_), trivial⟩
              · skip
                refine zs_aload_n (pc := 64) C dX9_planned_64 rfl ?_
                refine zs_getf (pc := 65) C dX9_planned_65 w_X9_154 f_10_77 (by decide) ?_
                refine zs_iload_n (pc := 68) C dX9_planned_68 rfl ?_
                refine zs_iald (r := 2102) (pc := 69) C dX9_planned_69 a_102 (by decide) (by omega) rfl (r_2102 _) (fun v69 e69 l69 u69 => ?_)
                refine zs_iconst (pc := 70) C dX9_planned_70 (by decide) ?_
                first | refine zs_idiv (pc := 71) C dX9_planned_71 (by omega) (by omega) (fun hz711 hz712 => ?_) | refine zs_idivF (pc := 71) C dX9_planned_71 (by omega) (fun z71 hz711 hz712 => ?_)
                refine zs_goto (tgt := 83) (pc := 72) C dX9_planned_72 (by decide) ?_
                exact zs_iret (pc := 83) C hr hlk dX9_planned_83 ⟨by repeat (first | exact zsm_rf | assumption | refine zsm_C (by decide) ?_ | refine zsm_I (by decide) ?_ | refine zsm_J ?_ | refine zsm_c (by assumption) (by decide) ?_), trivial⟩
            · skip
              refine zs_bipush (pc := 57) C dX9_planned_57 (by decide) (by decide) ?_
              exact zs_iret (pc := 59) C hr hlk dX9_planned_59 ⟨by repeat (first | exact zsm_rf | assumption | refine zsm_C (by decide) ?_ | refine zsm_I (by decide) ?_ | refine zsm_J ?_ | refine zsm_c (by assumption) (by decide) ?_), trivial⟩
        · skip
          refine zs_iconst (pc := 35) C dX9_planned_35 (by decide) ?_
          exact zs_iret (pc := 36) C hr hlk dX9_planned_36 ⟨by repeat (first | exact zsm_rf | assumption | refine zsm_C (by decide) ?_ | refine zsm_I (by decide) ?_ | refine zsm_J ?_ | refine zsm_c (by assumption) (by decide) ?_), trivial⟩
