theorem rg5_h {i : Int} (h : 0 ≤ i ∧ 60 ≤ i % 127 ∧ i % 127 < 120) : zrg 2105 i.toNat = (0, 99) := by
  have e : zrg 2105 i.toNat = zcl (if i.toNat % 127 = 120 then (0, 60) else if 60 ≤ i.toNat % 127 ∧ i.toNat % 127 < 120 then (0, 99) else zfull) := rfl
  rw [e, if_neg (by omega), if_pos (by omega)]
  rfl
theorem rg5_n {i : Int} (h : 0 ≤ i ∧ i % 127 = 120) : zrg 2105 i.toNat = (0, 60) := by
  have e : zrg 2105 i.toNat = zcl (if i.toNat % 127 = 120 then (0, 60) else if 60 ≤ i.toNat % 127 ∧ i.toNat % 127 < 120 then (0, 99) else zfull) := rfl
  rw [e, if_pos (by omega)]
  rfl
theorem rg5_o {i : Int} (h : 0 ≤ i ∧ (i % 127 < 60 ∨ 120 < i % 127)) : zrg 2105 i.toNat = (-2147483648, 2147483647) := by
  have e : zrg 2105 i.toNat = zcl (if i.toNat % 127 = 120 then (0, 60) else if 60 ≤ i.toNat % 127 ∧ i.toNat % 127 < 120 then (0, 99) else zfull) := rfl
  rw [e, if_neg (by omega), if_neg (by omega)]
  rfl
theorem rg6_h {i : Int} (h : 0 ≤ i ∧ 60 ≤ i % 127 ∧ i % 127 < 120) : zrg 2106 i.toNat = (0, 99) := by
  have e : zrg 2106 i.toNat = zcl (if i.toNat % 127 = 120 then (0, 60) else if 60 ≤ i.toNat % 127 ∧ i.toNat % 127 < 120 then (0, 99) else zfull) := rfl
  rw [e, if_neg (by omega), if_pos (by omega)]
  rfl
theorem rg6_n {i : Int} (h : 0 ≤ i ∧ i % 127 = 120) : zrg 2106 i.toNat = (0, 60) := by
  have e : zrg 2106 i.toNat = zcl (if i.toNat % 127 = 120 then (0, 60) else if 60 ≤ i.toNat % 127 ∧ i.toNat % 127 < 120 then (0, 99) else zfull) := rfl
  rw [e, if_pos (by omega)]
  rfl
theorem rg6_o {i : Int} (h : 0 ≤ i ∧ (i % 127 < 60 ∨ 120 < i % 127)) : zrg 2106 i.toNat = (-2147483648, 2147483647) := by
  have e : zrg 2106 i.toNat = zcl (if i.toNat % 127 = 120 then (0, 60) else if 60 ≤ i.toNat % 127 ∧ i.toNat % 127 < 120 then (0, 99) else zfull) := rfl
  rw [e, if_neg (by omega), if_neg (by omega)]
  rfl
theorem rg5_sh {i : Int} (h : 0 ≤ i) : zrg 2105 (i + 127).toNat = zrg 2105 i.toNat := by
  have e : ∀ k : Nat, zrg 2105 k = zcl (if k % 127 = 120 then (0, 60) else if 60 ≤ k % 127 ∧ k % 127 < 120 then (0, 99) else zfull) := fun _ => rfl
  rw [e, e, show (i + 127).toNat = i.toNat + 127 by omega, Nat.add_mod_right]
theorem rg7_a {i : Int} (h : 0 ≤ i ∧ i < 60) : zrg 2107 i.toNat = (0, 4) := by
  have e : zrg 2107 i.toNat = zcl (if i.toNat < 60 then (0, 4) else if i.toNat < 120 then (0, 3) else zfull) := rfl
  rw [e, if_pos (by omega)]
  rfl
theorem rg7_b {i : Int} (h : 60 ≤ i ∧ i < 120) : zrg 2107 i.toNat = (0, 3) := by
  have e : zrg 2107 i.toNat = zcl (if i.toNat < 60 then (0, 4) else if i.toNat < 120 then (0, 3) else zfull) := rfl
  rw [e, if_neg (by omega), if_pos (by omega)]
  rfl
theorem rg7_c {i : Int} (h : 120 ≤ i) : zrg 2107 i.toNat = (-2147483648, 2147483647) := by
  have e : zrg 2107 i.toNat = zcl (if i.toNat < 60 then (0, 4) else if i.toNat < 120 then (0, 3) else zfull) := rfl
  rw [e, if_neg (by omega), if_neg (by omega)]
  rfl

set_option maxHeartbeats 4000000 in
set_option maxRecDepth 100000 in
theorem c_X9_put5 {l : Launch} {Γ : zΓ} {G : zH} {w bb : Nat} {q : Int} (hX : zXs Γ) (hq : 0 ≤ q ∧ q ≤ 2413 ∧ q % 127 = 0) : zMet l Γ yX9_put cX9_put 4 none 0 [zr 10 w, zr 105 bb, zi q] G (zpv (fun G' => zsm [2105] G G' ∧ True)) := by
  refine zMet_of RX9 hX (by decide) rfl (Nat.le_of_ble_eq_true rfl) ?_
  intro p e s m args below meth c C hr hlk
  show Z p l e (zrm 0) s m args below meth c Γ 4 0 0 (MQ below (zQc Γ (zpv (fun G' => zsm [2105] G G' ∧ True))) args s 0 0 (zA Γ)) 0 [some (zr 10 w), some (zr 105 bb), some (zi q), none] [] G
  refine zs_loc 2 rfl (fun ha2 hb2 => ?_)
  refine zs_iconst (pc := 0) C dX9_put_0 (by decide) ?_
  refine zs_istore_n (pc := 1) C dX9_put_1 (by decide) ?_
  dsimp only [zset, zclr, znone]
  have L2 : ∀ (nn : Nat) (x3 : Int) (G1 : zH), (0 ≤ x3 ∧ x3 ≤ 20) → (zsm [2105] G G1) → (20 - x3).toNat < nn → Z p l e (zrm 0) s m args below meth c Γ 4 0 0 (MQ below (zQc Γ (zpv (fun G' => zsm [2105] G G' ∧ True))) args s 0 0 (zA Γ)) 2 [some (zr 10 w), some (zr 105 bb), some (zi q), some (zi x3)] [] G1 := by
    intro nn
    induction nn with
    | zero => intro x3 G1 h2_0 h2_1 hm; exact absurd hm (Nat.not_lt_zero _)
    | succ nn ih2 =>
      intro x3 G1 h2_0 h2_1 hm2
      refine zs_iload_n (pc := 2) C dX9_put_2 rfl ?_
      refine zs_bipush (pc := 3) C dX9_put_3 (by decide) (by decide) ?_
      refine zs_icmp_ge (tgt := 39) (pc := 5) C dX9_put_5 (by decide) (fun h5 => ?_) (fun h5 => ?_)
      · skip
        refine zs_iconst (pc := 39) C dX9_put_39 (by decide) ?_
        refine zs_istore_n (pc := 40) C dX9_put_40 (by decide) ?_
        dsimp only [zset, zclr, znone]
        have L41 : ∀ (nn : Nat) (x3 : Int) (G2 : zH), (0 ≤ x3 ∧ x3 ≤ 5) → (zsm [2105] G G2) → (5 - x3).toNat < nn → Z p l e (zrm 0) s m args below meth c Γ 4 0 0 (MQ below (zQc Γ (zpv (fun G' => zsm [2105] G G' ∧ True))) args s 0 0 (zA Γ)) 41 [some (zr 10 w), some (zr 105 bb), some (zi q), some (zi x3)] [] G2 := by
          intro nn
          induction nn with
          | zero => intro x3 G2 h41_0 h41_1 hm; exact absurd hm (Nat.not_lt_zero _)
          | succ nn ih41 =>
            intro x3 G2 h41_0 h41_1 hm41
            refine zs_iload_n (pc := 41) C dX9_put_41 rfl ?_
            refine zs_iconst (pc := 42) C dX9_put_42 (by decide) ?_
            refine zs_icmp_ge (tgt := 108) (pc := 43) C dX9_put_43 (by decide) (fun h43 => ?_) (fun h43 => ?_)
            · skip
              refine zs_iconst (pc := 108) C dX9_put_108 (by decide) ?_
              refine zs_istore_n (pc := 109) C dX9_put_109 (by decide) ?_
              dsimp only [zset, zclr, znone]
              have L110 : ∀ (nn : Nat) (x3 : Int) (G3 : zH), (0 ≤ x3 ∧ x3 ≤ 60) → (zsm [2105] G G3) → (60 - x3).toNat < nn → Z p l e (zrm 0) s m args below meth c Γ 4 0 0 (MQ below (zQc Γ (zpv (fun G' => zsm [2105] G G' ∧ True))) args s 0 0 (zA Γ)) 110 [some (zr 10 w), some (zr 105 bb), some (zi q), some (zi x3)] [] G3 := by
                intro nn
                induction nn with
                | zero => intro x3 G3 h110_0 h110_1 hm; exact absurd hm (Nat.not_lt_zero _)
                | succ nn ih110 =>
                  intro x3 G3 h110_0 h110_1 hm110
                  refine zs_iload_n (pc := 110) C dX9_put_110 rfl ?_
                  refine zs_bipush (pc := 111) C dX9_put_111 (by decide) (by decide) ?_
                  refine zs_icmp_ge (tgt := 136) (pc := 113) C dX9_put_113 (by decide) (fun h113 => ?_) (fun h113 => ?_)
                  · skip
                    refine zs_aload_n (pc := 136) C dX9_put_136 rfl ?_
                    refine zs_iload_n (pc := 137) C dX9_put_137 rfl ?_
                    refine zs_bipush (pc := 138) C dX9_put_138 (by decide) (by decide) ?_
                    first | refine zs_iadd (pc := 140) C dX9_put_140 (by omega) ?_ | refine zs_iaddF (pc := 140) C dX9_put_140 (fun z140 hz1401 hz1402 => ?_)
                    refine zs_aload_n (pc := 141) C dX9_put_141 rfl ?_
                    refine zs_getf (pc := 142) C dX9_put_142 w_X9_106 f_10_57 (by decide) ?_
                    refine zs_iconst (pc := 145) C dX9_put_145 (by decide) ?_
                    refine zs_iald (r := 2087) (pc := 146) C dX9_put_146 a_87 (by decide) (by omega) rfl (r_2087 _) (fun v146 e146 l146 u146 => ?_)
                    refine zs_iast (r := 2105) (pc := 147) C dX9_put_147 a_105 (by decide) (by omega) rfl (rg5_n (by omega)) (by omega) ?_
                    refine zs_aload_n (pc := 148) C dX9_put_148 rfl ?_
                    refine zs_iload_n (pc := 149) C dX9_put_149 rfl ?_
                    refine zs_bipush (pc := 150) C dX9_put_150 (by decide) (by decide) ?_
                    first | refine zs_iadd (pc := 152) C dX9_put_152 (by omega) ?_ | refine zs_iaddF (pc := 152) C dX9_put_152 (fun z152 hz1521 hz1522 => ?_)
                    refine zs_aload_n (pc := 153) C dX9_put_153 rfl ?_
                    refine zs_getf (pc := 154) C dX9_put_154 w_X9_109 f_10_58 (by decide) ?_
                    refine zs_iconst (pc := 157) C dX9_put_157 (by decide) ?_
                    refine zs_iald (r := 2088) (pc := 158) C dX9_put_158 a_88 (by decide) (by omega) rfl (r_2088 _) (fun v158 e158 l158 u158 => ?_)
                    try simp only [zuI_1, zuI_2, zuJ_1, zuJ_2, zuJ_3, zuP_1, zuP_2, zuP_3, zuC_1, zuC_2, reduceIte, Nat.reduceEqDiff, false_and, and_false, true_and, and_true, and_self, or_true, true_or, or_false, false_or] at e158
                    refine zs_iast (r := 2105) (pc := 159) C dX9_put_159 a_105 (by decide) (by omega) rfl (rg5_o (by omega)) (by omega) ?_
                    refine zs_aload_n (pc := 160) C dX9_put_160 rfl ?_
                    refine zs_iload_n (pc := 161) C dX9_put_161 rfl ?_
                    refine zs_bipush (pc := 162) C dX9_put_162 (by decide) (by decide) ?_
                    first | refine zs_iadd (pc := 164) C dX9_put_164 (by omega) ?_ | refine zs_iaddF (pc := 164) C dX9_put_164 (fun z164 hz1641 hz1642 => ?_)
                    refine zs_aload_n (pc := 165) C dX9_put_165 rfl ?_
                    refine zs_getf (pc := 166) C dX9_put_166 w_X9_112 f_10_59 (by decide) ?_
                    refine zs_iconst (pc := 169) C dX9_put_169 (by decide) ?_
                    refine zs_iald (r := 2089) (pc := 170) C dX9_put_170 a_89 (by decide) (by omega) rfl (r_2089 _) (fun v170 e170 l170 u170 => ?_)
                    try simp only [zuI_1, zuI_2, zuJ_1, zuJ_2, zuJ_3, zuP_1, zuP_2, zuP_3, zuC_1, zuC_2, reduceIte, Nat.reduceEqDiff, false_and, and_false, true_and, and_true, and_self, or_true, true_or, or_false, false_or] at e170
                    refine zs_iast (r := 2105) (pc := 171) C dX9_put_171 a_105 (by decide) (by omega) rfl (rg5_o (by omega)) (by omega) ?_
                    refine zs_aload_n (pc := 172) C dX9_put_172 rfl ?_
                    refine zs_iload_n (pc := 173) C dX9_put_173 rfl ?_
                    refine zs_bipush (pc := 174) C dX9_put_174 (by decide) (by decide) ?_
                    first | refine zs_iadd (pc := 176) C dX9_put_176 (by omega) ?_ | refine zs_iaddF (pc := 176) C dX9_put_176 (fun z176 hz1761 hz1762 => ?_)
                    refine zs_aload_n (pc := 177) C dX9_put_177 rfl ?_
                    refine zs_getf (pc := 178) C dX9_put_178 w_X9_115 f_10_60 (by decide) ?_
                    refine zs_iconst (pc := 181) C dX9_put_181 (by decide) ?_
                    refine zs_iald (r := 2090) (pc := 182) C dX9_put_182 a_90 (by decide) (by omega) rfl (r_2090 _) (fun v182 e182 l182 u182 => ?_)
                    try simp only [zuI_1, zuI_2, zuJ_1, zuJ_2, zuJ_3, zuP_1, zuP_2, zuP_3, zuC_1, zuC_2, reduceIte, Nat.reduceEqDiff, false_and, and_false, true_and, and_true, and_self, or_true, true_or, or_false, false_or] at e182
                    refine zs_iast (r := 2105) (pc := 183) C dX9_put_183 a_105 (by decide) (by omega) rfl (rg5_o (by omega)) (by omega) ?_
                    exact zs_vret (pc := 184) C hr hlk dX9_put_184 ⟨by repeat (first | exact zsm_rf | assumption | refine zsm_C (by decide) ?_ | refine zsm_I (by decide) ?_ | refine zsm_J ?_ | refine zsm_c (by assumption) (by decide) ?_), trivial⟩
                  · skip
                    refine zs_aload_n (pc := 116) C dX9_put_116 rfl ?_
                    refine zs_iload_n (pc := 117) C dX9_put_117 rfl ?_
                    refine zs_bipush (pc := 118) C dX9_put_118 (by decide) (by decide) ?_
                    first | refine zs_iadd (pc := 120) C dX9_put_120 (by omega) ?_ | refine zs_iaddF (pc := 120) C dX9_put_120 (fun z120 hz1201 hz1202 => ?_)
                    refine zs_iload_n (pc := 121) C dX9_put_121 rfl ?_
                    first | refine zs_iadd (pc := 122) C dX9_put_122 (by omega) ?_ | refine zs_iaddF (pc := 122) C dX9_put_122 (fun z122 hz1221 hz1222 => ?_)
                    refine zs_aload_n (pc := 123) C dX9_put_123 rfl ?_
                    refine zs_getf (pc := 124) C dX9_put_124 w_X9_127 f_10_65 (by decide) ?_
                    refine zs_iload_n (pc := 127) C dX9_put_127 rfl ?_
                    refine zs_iald (r := 2094) (pc := 128) C dX9_put_128 a_94 (by decide) (by omega) rfl (r_2094 _) (fun v128 e128 l128 u128 => ?_)
                    refine zs_iast (r := 2105) (pc := 129) C dX9_put_129 a_105 (by decide) (by omega) rfl (rg5_h (by omega)) (by omega) ?_
                    first | refine zs_iinc (pc := 130) C dX9_put_130 rfl (by decide) (by omega) ?_ | refine zs_iincF (pc := 130) C dX9_put_130 rfl (by decide) (fun z130 hz1301 hz1302 => ?_)
                    dsimp only [zset, zclr, znone]
                    refine zs_goto (tgt := 110) (pc := 133) C dX9_put_133 (by decide) ?_
                    exact zs_wk (ih110 _ _ (by first | omega | (simp only [zuI_1, zuI_2, zuJ_1, zuJ_2, zuJ_3, zuP_1, zuP_2, zuP_3, zuC_1, zuC_2, reduceIte, Nat.reduceEqDiff, false_and, and_false, true_and, and_true, and_self, or_true, true_or, or_false, false_or]; omega)) (by repeat (first | exact zsm_rf | assumption | refine zsm_C (by decide) ?_ | refine zsm_I (by decide) ?_ | refine zsm_J ?_ | refine zsm_c (by assumption) (by decide) ?_)) (by first | omega | (simp only [zuI_1, zuI_2, zuJ_1, zuJ_2, zuJ_3, zuP_1, zuP_2, zuP_3, zuC_1, zuC_2, reduceIte, Nat.reduceEqDiff, false_and, and_false, true_and, and_true, and_self, or_true, true_or, or_false, false_or]; omega))) (zwk_s rfl (zwk_s rfl (zwk_s rfl (zwk_s rfl zwk_0))))
              exact zs_wk (L110 _ _ _ (by first | omega | (simp only [zuI_1, zuI_2, zuJ_1, zuJ_2, zuJ_3, zuP_1, zuP_2, zuP_3, zuC_1, zuC_2, reduceIte, Nat.reduceEqDiff, false_and, and_false, true_and, and_true, and_self, or_true, true_or, or_false, false_or]; omega)) (by repeat (first | exact zsm_rf | assumption | refine zsm_C (by decide) ?_ | refine zsm_I (by decide) ?_ | refine zsm_J ?_ | refine zsm_c (by assumption) (by decide) ?_)) (Nat.lt_succ_self _)) (zwk_s rfl (zwk_s rfl (zwk_s rfl (zwk_s rfl zwk_0))))
            · skip
              refine zs_aload_n (pc := 46) C dX9_put_46 rfl ?_
              refine zs_iload_n (pc := 47) C dX9_put_47 rfl ?_
              refine zs_bipush (pc := 48) C dX9_put_48 (by decide) (by decide) ?_
              first | refine zs_iadd (pc := 50) C dX9_put_50 (by omega) ?_ | refine zs_iaddF (pc := 50) C dX9_put_50 (fun z50 hz501 hz502 => ?_)
              refine zs_iload_n (pc := 51) C dX9_put_51 rfl ?_
              first | refine zs_iadd (pc := 52) C dX9_put_52 (by omega) ?_ | refine zs_iaddF (pc := 52) C dX9_put_52 (fun z52 hz521 hz522 => ?_)
              refine zs_aload_n (pc := 53) C dX9_put_53 rfl ?_
              refine zs_getf (pc := 54) C dX9_put_54 w_X9_94 f_10_53 (by decide) ?_
              refine zs_iload_n (pc := 57) C dX9_put_57 rfl ?_
              refine zs_iald (r := 2083) (pc := 58) C dX9_put_58 a_83 (by decide) (by omega) rfl (r_2083 _) (fun v58 e58 l58 u58 => ?_)
              refine zs_iast (r := 2105) (pc := 59) C dX9_put_59 a_105 (by decide) (by omega) rfl (rg5_o (by omega)) (by omega) ?_
              refine zs_aload_n (pc := 60) C dX9_put_60 rfl ?_
              refine zs_iload_n (pc := 61) C dX9_put_61 rfl ?_
              refine zs_bipush (pc := 62) C dX9_put_62 (by decide) (by decide) ?_
              first | refine zs_iadd (pc := 64) C dX9_put_64 (by omega) ?_ | refine zs_iaddF (pc := 64) C dX9_put_64 (fun z64 hz641 hz642 => ?_)
              refine zs_iload_n (pc := 65) C dX9_put_65 rfl ?_
              first | refine zs_iadd (pc := 66) C dX9_put_66 (by omega) ?_ | refine zs_iaddF (pc := 66) C dX9_put_66 (fun z66 hz661 hz662 => ?_)
              refine zs_aload_n (pc := 67) C dX9_put_67 rfl ?_
              refine zs_getf (pc := 68) C dX9_put_68 w_X9_97 f_10_54 (by decide) ?_
              refine zs_iload_n (pc := 71) C dX9_put_71 rfl ?_
              refine zs_iald (r := 2084) (pc := 72) C dX9_put_72 a_84 (by decide) (by omega) rfl (r_2084 _) (fun v72 e72 l72 u72 => ?_)
              try simp only [zuI_1, zuI_2, zuJ_1, zuJ_2, zuJ_3, zuP_1, zuP_2, zuP_3, zuC_1, zuC_2, reduceIte, Nat.reduceEqDiff, false_and, and_false, true_and, and_true, and_self, or_true, true_or, or_false, false_or] at e72
              refine zs_iast (r := 2105) (pc := 73) C dX9_put_73 a_105 (by decide) (by omega) rfl (rg5_o (by omega)) (by omega) ?_
              refine zs_aload_n (pc := 74) C dX9_put_74 rfl ?_
              refine zs_iload_n (pc := 75) C dX9_put_75 rfl ?_
              refine zs_bipush (pc := 76) C dX9_put_76 (by decide) (by decide) ?_
              first | refine zs_iadd (pc := 78) C dX9_put_78 (by omega) ?_ | refine zs_iaddF (pc := 78) C dX9_put_78 (fun z78 hz781 hz782 => ?_)
              refine zs_iload_n (pc := 79) C dX9_put_79 rfl ?_
              first | refine zs_iadd (pc := 80) C dX9_put_80 (by omega) ?_ | refine zs_iaddF (pc := 80) C dX9_put_80 (fun z80 hz801 hz802 => ?_)
              refine zs_aload_n (pc := 81) C dX9_put_81 rfl ?_
              refine zs_getf (pc := 82) C dX9_put_82 w_X9_100 f_10_55 (by decide) ?_
              refine zs_iload_n (pc := 85) C dX9_put_85 rfl ?_
              refine zs_iald (r := 2085) (pc := 86) C dX9_put_86 a_85 (by decide) (by omega) rfl (r_2085 _) (fun v86 e86 l86 u86 => ?_)
              try simp only [zuI_1, zuI_2, zuJ_1, zuJ_2, zuJ_3, zuP_1, zuP_2, zuP_3, zuC_1, zuC_2, reduceIte, Nat.reduceEqDiff, false_and, and_false, true_and, and_true, and_self, or_true, true_or, or_false, false_or] at e86
              refine zs_iast (r := 2105) (pc := 87) C dX9_put_87 a_105 (by decide) (by omega) rfl (rg5_o (by omega)) (by omega) ?_
              refine zs_aload_n (pc := 88) C dX9_put_88 rfl ?_
              refine zs_iload_n (pc := 89) C dX9_put_89 rfl ?_
              refine zs_bipush (pc := 90) C dX9_put_90 (by decide) (by decide) ?_
              first | refine zs_iadd (pc := 92) C dX9_put_92 (by omega) ?_ | refine zs_iaddF (pc := 92) C dX9_put_92 (fun z92 hz921 hz922 => ?_)
              refine zs_iload_n (pc := 93) C dX9_put_93 rfl ?_
              first | refine zs_iadd (pc := 94) C dX9_put_94 (by omega) ?_ | refine zs_iaddF (pc := 94) C dX9_put_94 (fun z94 hz941 hz942 => ?_)
              refine zs_aload_n (pc := 95) C dX9_put_95 rfl ?_
              refine zs_getf (pc := 96) C dX9_put_96 w_X9_103 f_10_56 (by decide) ?_
              refine zs_iload_n (pc := 99) C dX9_put_99 rfl ?_
              refine zs_iald (r := 2086) (pc := 100) C dX9_put_100 a_86 (by decide) (by omega) rfl (r_2086 _) (fun v100 e100 l100 u100 => ?_)
              try simp only [zuI_1, zuI_2, zuJ_1, zuJ_2, zuJ_3, zuP_1, zuP_2, zuP_3, zuC_1, zuC_2, reduceIte, Nat.reduceEqDiff, false_and, and_false, true_and, and_true, and_self, or_true, true_or, or_false, false_or] at e100
              refine zs_iast (r := 2105) (pc := 101) C dX9_put_101 a_105 (by decide) (by omega) rfl (rg5_o (by omega)) (by omega) ?_
              first | refine zs_iinc (pc := 102) C dX9_put_102 rfl (by decide) (by omega) ?_ | refine zs_iincF (pc := 102) C dX9_put_102 rfl (by decide) (fun z102 hz1021 hz1022 => ?_)
              dsimp only [zset, zclr, znone]
              refine zs_goto (tgt := 41) (pc := 105) C dX9_put_105 (by decide) ?_
              exact zs_wk (ih41 _ _ (by first | omega | (simp only [zuI_1, zuI_2, zuJ_1, zuJ_2, zuJ_3, zuP_1, zuP_2, zuP_3, zuC_1, zuC_2, reduceIte, Nat.reduceEqDiff, false_and, and_false, true_and, and_true, and_self, or_true, true_or, or_false, false_or]; omega)) (by repeat (first | exact zsm_rf | assumption | refine zsm_C (by decide) ?_ | refine zsm_I (by decide) ?_ | refine zsm_J ?_ | refine zsm_c (by assumption) (by decide) ?_)) (by first | omega | (simp only [zuI_1, zuI_2, zuJ_1, zuJ_2, zuJ_3, zuP_1, zuP_2, zuP_3, zuC_1, zuC_2, reduceIte, Nat.reduceEqDiff, false_and, and_false, true_and, and_true, and_self, or_true, true_or, or_false, false_or]; omega))) (zwk_s rfl (zwk_s rfl (zwk_s rfl (zwk_s rfl zwk_0))))
        exact zs_wk (L41 _ _ _ (by first | omega | (simp only [zuI_1, zuI_2, zuJ_1, zuJ_2, zuJ_3, zuP_1, zuP_2, zuP_3, zuC_1, zuC_2, reduceIte, Nat.reduceEqDiff, false_and, and_false, true_and, and_true, and_self, or_true, true_or, or_false, false_or]; omega)) (by repeat (first | exact zsm_rf | assumption | refine zsm_C (by decide) ?_ | refine zsm_I (by decide) ?_ | refine zsm_J ?_ | refine zsm_c (by assumption) (by decide) ?_)) (Nat.lt_succ_self _)) (zwk_s rfl (zwk_s rfl (zwk_s rfl (zwk_s rfl zwk_0))))
      · skip
        refine zs_aload_n (pc := 8) C dX9_put_8 rfl ?_
        refine zs_iload_n (pc := 9) C dX9_put_9 rfl ?_
        refine zs_iload_n (pc := 10) C dX9_put_10 rfl ?_
        first | refine zs_iadd (pc := 11) C dX9_put_11 (by omega) ?_ | refine zs_iaddF (pc := 11) C dX9_put_11 (fun z11 hz111 hz112 => ?_)
        refine zs_aload_n (pc := 12) C dX9_put_12 rfl ?_
        refine zs_getf (pc := 13) C dX9_put_13 w_X9_88 f_10_51 (by decide) ?_
        refine zs_iload_n (pc := 16) C dX9_put_16 rfl ?_
        refine zs_iald (r := 2081) (pc := 17) C dX9_put_17 a_81 (by decide) (by omega) rfl (r_2081 _) (fun v17 e17 l17 u17 => ?_)
        refine zs_iast (r := 2105) (pc := 18) C dX9_put_18 a_105 (by decide) (by omega) rfl (rg5_o (by omega)) (by omega) ?_
        refine zs_aload_n (pc := 19) C dX9_put_19 rfl ?_
        refine zs_iload_n (pc := 20) C dX9_put_20 rfl ?_
        refine zs_bipush (pc := 21) C dX9_put_21 (by decide) (by decide) ?_
        first | refine zs_iadd (pc := 23) C dX9_put_23 (by omega) ?_ | refine zs_iaddF (pc := 23) C dX9_put_23 (fun z23 hz231 hz232 => ?_)
        refine zs_iload_n (pc := 24) C dX9_put_24 rfl ?_
        first | refine zs_iadd (pc := 25) C dX9_put_25 (by omega) ?_ | refine zs_iaddF (pc := 25) C dX9_put_25 (fun z25 hz251 hz252 => ?_)
        refine zs_aload_n (pc := 26) C dX9_put_26 rfl ?_
        refine zs_getf (pc := 27) C dX9_put_27 w_X9_91 f_10_52 (by decide) ?_
        refine zs_iload_n (pc := 30) C dX9_put_30 rfl ?_
        refine zs_iald (r := 2082) (pc := 31) C dX9_put_31 a_82 (by decide) (by omega) rfl (r_2082 _) (fun v31 e31 l31 u31 => ?_)
        try simp only [zuI_1, zuI_2, zuJ_1, zuJ_2, zuJ_3, zuP_1, zuP_2, zuP_3, zuC_1, zuC_2, reduceIte, Nat.reduceEqDiff, false_and, and_false, true_and, and_true, and_self, or_true, true_or, or_false, false_or] at e31
        refine zs_iast (r := 2105) (pc := 32) C dX9_put_32 a_105 (by decide) (by omega) rfl (rg5_o (by omega)) (by omega) ?_
        first | refine zs_iinc (pc := 33) C dX9_put_33 rfl (by decide) (by omega) ?_ | refine zs_iincF (pc := 33) C dX9_put_33 rfl (by decide) (fun z33 hz331 hz332 => ?_)
        dsimp only [zset, zclr, znone]
        refine zs_goto (tgt := 2) (pc := 36) C dX9_put_36 (by decide) ?_
        exact zs_wk (ih2 _ _ (by first | omega | (simp only [zuI_1, zuI_2, zuJ_1, zuJ_2, zuJ_3, zuP_1, zuP_2, zuP_3, zuC_1, zuC_2, reduceIte, Nat.reduceEqDiff, false_and, and_false, true_and, and_true, and_self, or_true, true_or, or_false, false_or]; omega)) (by repeat (first | exact zsm_rf | assumption | refine zsm_C (by decide) ?_ | refine zsm_I (by decide) ?_ | refine zsm_J ?_ | refine zsm_c (by assumption) (by decide) ?_)) (by first | omega | (simp only [zuI_1, zuI_2, zuJ_1, zuJ_2, zuJ_3, zuP_1, zuP_2, zuP_3, zuC_1, zuC_2, reduceIte, Nat.reduceEqDiff, false_and, and_false, true_and, and_true, and_self, or_true, true_or, or_false, false_or]; omega))) (zwk_s rfl (zwk_s rfl (zwk_s rfl (zwk_s rfl zwk_0))))
  exact zs_wk (L2 _ _ _ (by first | omega | (simp only [zuI_1, zuI_2, zuJ_1, zuJ_2, zuJ_3, zuP_1, zuP_2, zuP_3, zuC_1, zuC_2, reduceIte, Nat.reduceEqDiff, false_and, and_false, true_and, and_true, and_self, or_true, true_or, or_false, false_or]; omega)) (by repeat (first | exact zsm_rf | assumption | refine zsm_C (by decide) ?_ | refine zsm_I (by decide) ?_ | refine zsm_J ?_ | refine zsm_c (by assumption) (by decide) ?_)) (Nat.lt_succ_self _)) (zwk_s rfl (zwk_s rfl (zwk_s rfl (zwk_s rfl zwk_0))))

set_option maxHeartbeats 4000000 in
set_option maxRecDepth 100000 in
theorem c_X9_take5 {l : Launch} {Γ : zΓ} {G : zH} {w bb : Nat} {q : Int} (hX : zXs Γ) (hq : 0 ≤ q ∧ q ≤ 2413 ∧ q % 127 = 0) : zMet l Γ yX9_take cX9_take 4 none 0 [zr 10 w, zr 105 bb, zi q] G (zpv (fun G' => zsm [2081, 2082, 2083, 2084, 2085, 2086, 2087, 2088, 2089, 2090, 2094] G G' ∧ True)) := by
  refine zMet_of RX9 hX (by decide) rfl (Nat.le_of_ble_eq_true rfl) ?_
  intro p e s m args below meth c C hr hlk
  show Z p l e (zrm 0) s m args below meth c Γ 4 0 0 (MQ below (zQc Γ (zpv (fun G' => zsm [2081, 2082, 2083, 2084, 2085, 2086, 2087, 2088, 2089, 2090, 2094] G G' ∧ True))) args s 0 0 (zA Γ)) 0 [some (zr 10 w), some (zr 105 bb), some (zi q), none] [] G
  refine zs_loc 2 rfl (fun ha2 hb2 => ?_)
  refine zs_iconst (pc := 0) C dX9_take_0 (by decide) ?_
  refine zs_istore_n (pc := 1) C dX9_take_1 (by decide) ?_
  dsimp only [zset, zclr, znone]
  have L2 : ∀ (nn : Nat) (x3 : Int) (G1 : zH), (0 ≤ x3 ∧ x3 ≤ 20) → (zsm [2081, 2082, 2083, 2084, 2085, 2086, 2087, 2088, 2089, 2090, 2094] G G1) → (20 - x3).toNat < nn → Z p l e (zrm 0) s m args below meth c Γ 4 0 0 (MQ below (zQc Γ (zpv (fun G' => zsm [2081, 2082, 2083, 2084, 2085, 2086, 2087, 2088, 2089, 2090, 2094] G G' ∧ True))) args s 0 0 (zA Γ)) 2 [some (zr 10 w), some (zr 105 bb), some (zi q), some (zi x3)] [] G1 := by
    intro nn
    induction nn with
    | zero => intro x3 G1 h2_0 h2_1 hm; exact absurd hm (Nat.not_lt_zero _)
    | succ nn ih2 =>
      intro x3 G1 h2_0 h2_1 hm2
      refine zs_iload_n (pc := 2) C dX9_take_2 rfl ?_
      refine zs_bipush (pc := 3) C dX9_take_3 (by decide) (by decide) ?_
      refine zs_icmp_ge (tgt := 39) (pc := 5) C dX9_take_5 (by decide) (fun h5 => ?_) (fun h5 => ?_)
      · skip
        refine zs_iconst (pc := 39) C dX9_take_39 (by decide) ?_
        refine zs_istore_n (pc := 40) C dX9_take_40 (by decide) ?_
        dsimp only [zset, zclr, znone]
        have L41 : ∀ (nn : Nat) (x3 : Int) (G2 : zH), (0 ≤ x3 ∧ x3 ≤ 5) → (zsm [2081, 2082, 2083, 2084, 2085, 2086, 2087, 2088, 2089, 2090, 2094] G G2) → (5 - x3).toNat < nn → Z p l e (zrm 0) s m args below meth c Γ 4 0 0 (MQ below (zQc Γ (zpv (fun G' => zsm [2081, 2082, 2083, 2084, 2085, 2086, 2087, 2088, 2089, 2090, 2094] G G' ∧ True))) args s 0 0 (zA Γ)) 41 [some (zr 10 w), some (zr 105 bb), some (zi q), some (zi x3)] [] G2 := by
          intro nn
          induction nn with
          | zero => intro x3 G2 h41_0 h41_1 hm; exact absurd hm (Nat.not_lt_zero _)
          | succ nn ih41 =>
            intro x3 G2 h41_0 h41_1 hm41
            refine zs_iload_n (pc := 41) C dX9_take_41 rfl ?_
            refine zs_iconst (pc := 42) C dX9_take_42 (by decide) ?_
            refine zs_icmp_ge (tgt := 108) (pc := 43) C dX9_take_43 (by decide) (fun h43 => ?_) (fun h43 => ?_)
            · skip
              refine zs_iconst (pc := 108) C dX9_take_108 (by decide) ?_
              refine zs_istore_n (pc := 109) C dX9_take_109 (by decide) ?_
              dsimp only [zset, zclr, znone]
              have L110 : ∀ (nn : Nat) (x3 : Int) (G3 : zH), (0 ≤ x3 ∧ x3 ≤ 60) → (zsm [2081, 2082, 2083, 2084, 2085, 2086, 2087, 2088, 2089, 2090, 2094] G G3) → (60 - x3).toNat < nn → Z p l e (zrm 0) s m args below meth c Γ 4 0 0 (MQ below (zQc Γ (zpv (fun G' => zsm [2081, 2082, 2083, 2084, 2085, 2086, 2087, 2088, 2089, 2090, 2094] G G' ∧ True))) args s 0 0 (zA Γ)) 110 [some (zr 10 w), some (zr 105 bb), some (zi q), some (zi x3)] [] G3 := by
                intro nn
                induction nn with
                | zero => intro x3 G3 h110_0 h110_1 hm; exact absurd hm (Nat.not_lt_zero _)
                | succ nn ih110 =>
                  intro x3 G3 h110_0 h110_1 hm110
                  refine zs_iload_n (pc := 110) C dX9_take_110 rfl ?_
                  refine zs_bipush (pc := 111) C dX9_take_111 (by decide) (by decide) ?_
                  refine zs_icmp_ge (tgt := 136) (pc := 113) C dX9_take_113 (by decide) (fun h113 => ?_) (fun h113 => ?_)
                  · skip
                    refine zs_aload_n (pc := 136) C dX9_take_136 rfl ?_
                    refine zs_getf (pc := 137) C dX9_take_137 w_X9_106 f_10_57 (by decide) ?_
                    refine zs_iconst (pc := 140) C dX9_take_140 (by decide) ?_
                    refine zs_aload_n (pc := 141) C dX9_take_141 rfl ?_
                    refine zs_iload_n (pc := 142) C dX9_take_142 rfl ?_
                    refine zs_bipush (pc := 143) C dX9_take_143 (by decide) (by decide) ?_
                    first | refine zs_iadd (pc := 145) C dX9_take_145 (by omega) ?_ | refine zs_iaddF (pc := 145) C dX9_take_145 (fun z145 hz1451 hz1452 => ?_)
                    refine zs_iald (r := 2105) (pc := 146) C dX9_take_146 a_105 (by decide) (by omega) rfl (rg5_n (by omega)) (fun v146 e146 l146 u146 => ?_)
                    refine zs_iast (r := 2087) (pc := 147) C dX9_take_147 a_87 (by decide) (by omega) rfl (r_2087 _) (by omega) ?_
                    refine zs_aload_n (pc := 148) C dX9_take_148 rfl ?_
                    refine zs_getf (pc := 149) C dX9_take_149 w_X9_109 f_10_58 (by decide) ?_
                    refine zs_iconst (pc := 152) C dX9_take_152 (by decide) ?_
                    refine zs_aload_n (pc := 153) C dX9_take_153 rfl ?_
                    refine zs_iload_n (pc := 154) C dX9_take_154 rfl ?_
                    refine zs_bipush (pc := 155) C dX9_take_155 (by decide) (by decide) ?_
                    first | refine zs_iadd (pc := 157) C dX9_take_157 (by omega) ?_ | refine zs_iaddF (pc := 157) C dX9_take_157 (fun z157 hz1571 hz1572 => ?_)
                    refine zs_iald (r := 2105) (pc := 158) C dX9_take_158 a_105 (by decide) (by omega) rfl (rg5_o (by omega)) (fun v158 e158 l158 u158 => ?_)
                    try simp only [zuI_1, zuI_2, zuJ_1, zuJ_2, zuJ_3, zuP_1, zuP_2, zuP_3, zuC_1, zuC_2, reduceIte, Nat.reduceEqDiff, false_and, and_false, true_and, and_true, and_self, or_true, true_or, or_false, false_or] at e158
                    refine zs_iast (r := 2088) (pc := 159) C dX9_take_159 a_88 (by decide) (by omega) rfl (r_2088 _) (by omega) ?_
                    refine zs_aload_n (pc := 160) C dX9_take_160 rfl ?_
                    refine zs_getf (pc := 161) C dX9_take_161 w_X9_112 f_10_59 (by decide) ?_
                    refine zs_iconst (pc := 164) C dX9_take_164 (by decide) ?_
                    refine zs_aload_n (pc := 165) C dX9_take_165 rfl ?_
                    refine zs_iload_n (pc := 166) C dX9_take_166 rfl ?_
                    refine zs_bipush (pc := 167) C dX9_take_167 (by decide) (by decide) ?_
                    first | refine zs_iadd (pc := 169) C dX9_take_169 (by omega) ?_ | refine zs_iaddF (pc := 169) C dX9_take_169 (fun z169 hz1691 hz1692 => ?_)
                    refine zs_iald (r := 2105) (pc := 170) C dX9_take_170 a_105 (by decide) (by omega) rfl (rg5_o (by omega)) (fun v170 e170 l170 u170 => ?_)
                    try simp only [zuI_1, zuI_2, zuJ_1, zuJ_2, zuJ_3, zuP_1, zuP_2, zuP_3, zuC_1, zuC_2, reduceIte, Nat.reduceEqDiff, false_and, and_false, true_and, and_true, and_self, or_true, true_or, or_false, false_or] at e170
                    refine zs_iast (r := 2089) (pc := 171) C dX9_take_171 a_89 (by decide) (by omega) rfl (r_2089 _) (by omega) ?_
                    refine zs_aload_n (pc := 172) C dX9_take_172 rfl ?_
                    refine zs_getf (pc := 173) C dX9_take_173 w_X9_115 f_10_60 (by decide) ?_
                    refine zs_iconst (pc := 176) C dX9_take_176 (by decide) ?_
                    refine zs_aload_n (pc := 177) C dX9_take_177 rfl ?_
                    refine zs_iload_n (pc := 178) C dX9_take_178 rfl ?_
                    refine zs_bipush (pc := 179) C dX9_take_179 (by decide) (by decide) ?_
                    first | refine zs_iadd (pc := 181) C dX9_take_181 (by omega) ?_ | refine zs_iaddF (pc := 181) C dX9_take_181 (fun z181 hz1811 hz1812 => ?_)
                    refine zs_iald (r := 2105) (pc := 182) C dX9_take_182 a_105 (by decide) (by omega) rfl (rg5_o (by omega)) (fun v182 e182 l182 u182 => ?_)
                    try simp only [zuI_1, zuI_2, zuJ_1, zuJ_2, zuJ_3, zuP_1, zuP_2, zuP_3, zuC_1, zuC_2, reduceIte, Nat.reduceEqDiff, false_and, and_false, true_and, and_true, and_self, or_true, true_or, or_false, false_or] at e182
                    refine zs_iast (r := 2090) (pc := 183) C dX9_take_183 a_90 (by decide) (by omega) rfl (r_2090 _) (by omega) ?_
                    exact zs_vret (pc := 184) C hr hlk dX9_take_184 ⟨by repeat (first | exact zsm_rf | assumption | refine zsm_C (by decide) ?_ | refine zsm_I (by decide) ?_ | refine zsm_J ?_ | refine zsm_c (by assumption) (by decide) ?_), trivial⟩
                  · skip
                    refine zs_aload_n (pc := 116) C dX9_take_116 rfl ?_
                    refine zs_getf (pc := 117) C dX9_take_117 w_X9_127 f_10_65 (by decide) ?_
                    refine zs_iload_n (pc := 120) C dX9_take_120 rfl ?_
                    refine zs_aload_n (pc := 121) C dX9_take_121 rfl ?_
                    refine zs_iload_n (pc := 122) C dX9_take_122 rfl ?_
                    refine zs_bipush (pc := 123) C dX9_take_123 (by decide) (by decide) ?_
                    first | refine zs_iadd (pc := 125) C dX9_take_125 (by omega) ?_ | refine zs_iaddF (pc := 125) C dX9_take_125 (fun z125 hz1251 hz1252 => ?_)
                    refine zs_iload_n (pc := 126) C dX9_take_126 rfl ?_
                    first | refine zs_iadd (pc := 127) C dX9_take_127 (by omega) ?_ | refine zs_iaddF (pc := 127) C dX9_take_127 (fun z127 hz1271 hz1272 => ?_)
                    refine zs_iald (r := 2105) (pc := 128) C dX9_take_128 a_105 (by decide) (by omega) rfl (rg5_h (by omega)) (fun v128 e128 l128 u128 => ?_)
                    refine zs_iast (r := 2094) (pc := 129) C dX9_take_129 a_94 (by decide) (by omega) rfl (r_2094 _) (by omega) ?_
                    first | refine zs_iinc (pc := 130) C dX9_take_130 rfl (by decide) (by omega) ?_ | refine zs_iincF (pc := 130) C dX9_take_130 rfl (by decide) (fun z130 hz1301 hz1302 => ?_)
                    dsimp only [zset, zclr, znone]
                    refine zs_goto (tgt := 110) (pc := 133) C dX9_take_133 (by decide) ?_
                    exact zs_wk (ih110 _ _ (by first | omega | (simp only [zuI_1, zuI_2, zuJ_1, zuJ_2, zuJ_3, zuP_1, zuP_2, zuP_3, zuC_1, zuC_2, reduceIte, Nat.reduceEqDiff, false_and, and_false, true_and, and_true, and_self, or_true, true_or, or_false, false_or]; omega)) (by repeat (first | exact zsm_rf | assumption | refine zsm_C (by decide) ?_ | refine zsm_I (by decide) ?_ | refine zsm_J ?_ | refine zsm_c (by assumption) (by decide) ?_)) (by first | omega | (simp only [zuI_1, zuI_2, zuJ_1, zuJ_2, zuJ_3, zuP_1, zuP_2, zuP_3, zuC_1, zuC_2, reduceIte, Nat.reduceEqDiff, false_and, and_false, true_and, and_true, and_self, or_true, true_or, or_false, false_or]; omega))) (zwk_s rfl (zwk_s rfl (zwk_s rfl (zwk_s rfl zwk_0))))
              exact zs_wk (L110 _ _ _ (by first | omega | (simp only [zuI_1, zuI_2, zuJ_1, zuJ_2, zuJ_3, zuP_1, zuP_2, zuP_3, zuC_1, zuC_2, reduceIte, Nat.reduceEqDiff, false_and, and_false, true_and, and_true, and_self, or_true, true_or, or_false, false_or]; omega)) (by repeat (first | exact zsm_rf | assumption | refine zsm_C (by decide) ?_ | refine zsm_I (by decide) ?_ | refine zsm_J ?_ | refine zsm_c (by assumption) (by decide) ?_)) (Nat.lt_succ_self _)) (zwk_s rfl (zwk_s rfl (zwk_s rfl (zwk_s rfl zwk_0))))
            · skip
              refine zs_aload_n (pc := 46) C dX9_take_46 rfl ?_
              refine zs_getf (pc := 47) C dX9_take_47 w_X9_94 f_10_53 (by decide) ?_
              refine zs_iload_n (pc := 50) C dX9_take_50 rfl ?_
              refine zs_aload_n (pc := 51) C dX9_take_51 rfl ?_
              refine zs_iload_n (pc := 52) C dX9_take_52 rfl ?_
              refine zs_bipush (pc := 53) C dX9_take_53 (by decide) (by decide) ?_
              first | refine zs_iadd (pc := 55) C dX9_take_55 (by omega) ?_ | refine zs_iaddF (pc := 55) C dX9_take_55 (fun z55 hz551 hz552 => ?_)
              refine zs_iload_n (pc := 56) C dX9_take_56 rfl ?_
              first | refine zs_iadd (pc := 57) C dX9_take_57 (by omega) ?_ | refine zs_iaddF (pc := 57) C dX9_take_57 (fun z57 hz571 hz572 => ?_)
              refine zs_iald (r := 2105) (pc := 58) C dX9_take_58 a_105 (by decide) (by omega) rfl (rg5_o (by omega)) (fun v58 e58 l58 u58 => ?_)
              refine zs_iast (r := 2083) (pc := 59) C dX9_take_59 a_83 (by decide) (by omega) rfl (r_2083 _) (by omega) ?_
              refine zs_aload_n (pc := 60) C dX9_take_60 rfl ?_
              refine zs_getf (pc := 61) C dX9_take_61 w_X9_97 f_10_54 (by decide) ?_
              refine zs_iload_n (pc := 64) C dX9_take_64 rfl ?_
              refine zs_aload_n (pc := 65) C dX9_take_65 rfl ?_
              refine zs_iload_n (pc := 66) C dX9_take_66 rfl ?_
              refine zs_bipush (pc := 67) C dX9_take_67 (by decide) (by decide) ?_
              first | refine zs_iadd (pc := 69) C dX9_take_69 (by omega) ?_ | refine zs_iaddF (pc := 69) C dX9_take_69 (fun z69 hz691 hz692 => ?_)
              refine zs_iload_n (pc := 70) C dX9_take_70 rfl ?_
              first | refine zs_iadd (pc := 71) C dX9_take_71 (by omega) ?_ | refine zs_iaddF (pc := 71) C dX9_take_71 (fun z71 hz711 hz712 => ?_)
              refine zs_iald (r := 2105) (pc := 72) C dX9_take_72 a_105 (by decide) (by omega) rfl (rg5_o (by omega)) (fun v72 e72 l72 u72 => ?_)
              try simp only [zuI_1, zuI_2, zuJ_1, zuJ_2, zuJ_3, zuP_1, zuP_2, zuP_3, zuC_1, zuC_2, reduceIte, Nat.reduceEqDiff, false_and, and_false, true_and, and_true, and_self, or_true, true_or, or_false, false_or] at e72
              refine zs_iast (r := 2084) (pc := 73) C dX9_take_73 a_84 (by decide) (by omega) rfl (r_2084 _) (by omega) ?_
              refine zs_aload_n (pc := 74) C dX9_take_74 rfl ?_
              refine zs_getf (pc := 75) C dX9_take_75 w_X9_100 f_10_55 (by decide) ?_
              refine zs_iload_n (pc := 78) C dX9_take_78 rfl ?_
              refine zs_aload_n (pc := 79) C dX9_take_79 rfl ?_
              refine zs_iload_n (pc := 80) C dX9_take_80 rfl ?_
              refine zs_bipush (pc := 81) C dX9_take_81 (by decide) (by decide) ?_
              first | refine zs_iadd (pc := 83) C dX9_take_83 (by omega) ?_ | refine zs_iaddF (pc := 83) C dX9_take_83 (fun z83 hz831 hz832 => ?_)
              refine zs_iload_n (pc := 84) C dX9_take_84 rfl ?_
              first | refine zs_iadd (pc := 85) C dX9_take_85 (by omega) ?_ | refine zs_iaddF (pc := 85) C dX9_take_85 (fun z85 hz851 hz852 => ?_)
              refine zs_iald (r := 2105) (pc := 86) C dX9_take_86 a_105 (by decide) (by omega) rfl (rg5_o (by omega)) (fun v86 e86 l86 u86 => ?_)
              try simp only [zuI_1, zuI_2, zuJ_1, zuJ_2, zuJ_3, zuP_1, zuP_2, zuP_3, zuC_1, zuC_2, reduceIte, Nat.reduceEqDiff, false_and, and_false, true_and, and_true, and_self, or_true, true_or, or_false, false_or] at e86
              refine zs_iast (r := 2085) (pc := 87) C dX9_take_87 a_85 (by decide) (by omega) rfl (r_2085 _) (by omega) ?_
              refine zs_aload_n (pc := 88) C dX9_take_88 rfl ?_
              refine zs_getf (pc := 89) C dX9_take_89 w_X9_103 f_10_56 (by decide) ?_
              refine zs_iload_n (pc := 92) C dX9_take_92 rfl ?_
              refine zs_aload_n (pc := 93) C dX9_take_93 rfl ?_
              refine zs_iload_n (pc := 94) C dX9_take_94 rfl ?_
              refine zs_bipush (pc := 95) C dX9_take_95 (by decide) (by decide) ?_
              first | refine zs_iadd (pc := 97) C dX9_take_97 (by omega) ?_ | refine zs_iaddF (pc := 97) C dX9_take_97 (fun z97 hz971 hz972 => ?_)
              refine zs_iload_n (pc := 98) C dX9_take_98 rfl ?_
              first | refine zs_iadd (pc := 99) C dX9_take_99 (by omega) ?_ | refine zs_iaddF (pc := 99) C dX9_take_99 (fun z99 hz991 hz992 => ?_)
              refine zs_iald (r := 2105) (pc := 100) C dX9_take_100 a_105 (by decide) (by omega) rfl (rg5_o (by omega)) (fun v100 e100 l100 u100 => ?_)
              try simp only [zuI_1, zuI_2, zuJ_1, zuJ_2, zuJ_3, zuP_1, zuP_2, zuP_3, zuC_1, zuC_2, reduceIte, Nat.reduceEqDiff, false_and, and_false, true_and, and_true, and_self, or_true, true_or, or_false, false_or] at e100
              refine zs_iast (r := 2086) (pc := 101) C dX9_take_101 a_86 (by decide) (by omega) rfl (r_2086 _) (by omega) ?_
              first | refine zs_iinc (pc := 102) C dX9_take_102 rfl (by decide) (by omega) ?_ | refine zs_iincF (pc := 102) C dX9_take_102 rfl (by decide) (fun z102 hz1021 hz1022 => ?_)
              dsimp only [zset, zclr, znone]
              refine zs_goto (tgt := 41) (pc := 105) C dX9_take_105 (by decide) ?_
              exact zs_wk (ih41 _ _ (by first | omega | (simp only [zuI_1, zuI_2, zuJ_1, zuJ_2, zuJ_3, zuP_1, zuP_2, zuP_3, zuC_1, zuC_2, reduceIte, Nat.reduceEqDiff, false_and, and_false, true_and, and_true, and_self, or_true, true_or, or_false, false_or]; omega)) (by repeat (first | exact zsm_rf | assumption | refine zsm_C (by decide) ?_ | refine zsm_I (by decide) ?_ | refine zsm_J ?_ | refine zsm_c (by assumption) (by decide) ?_)) (by first | omega | (simp only [zuI_1, zuI_2, zuJ_1, zuJ_2, zuJ_3, zuP_1, zuP_2, zuP_3, zuC_1, zuC_2, reduceIte, Nat.reduceEqDiff, false_and, and_false, true_and, and_true, and_self, or_true, true_or, or_false, false_or]; omega))) (zwk_s rfl (zwk_s rfl (zwk_s rfl (zwk_s rfl zwk_0))))
        exact zs_wk (L41 _ _ _ (by first | omega | (simp only [zuI_1, zuI_2, zuJ_1, zuJ_2, zuJ_3, zuP_1, zuP_2, zuP_3, zuC_1, zuC_2, reduceIte, Nat.reduceEqDiff, false_and, and_false, true_and, and_true, and_self, or_true, true_or, or_false, false_or]; omega)) (by repeat (first | exact zsm_rf | assumption | refine zsm_C (by decide) ?_ | refine zsm_I (by decide) ?_ | refine zsm_J ?_ | refine zsm_c (by assumption) (by decide) ?_)) (Nat.lt_succ_self _)) (zwk_s rfl (zwk_s rfl (zwk_s rfl (zwk_s rfl zwk_0))))
      · skip
        refine zs_aload_n (pc := 8) C dX9_take_8 rfl ?_
        refine zs_getf (pc := 9) C dX9_take_9 w_X9_88 f_10_51 (by decide) ?_
        refine zs_iload_n (pc := 12) C dX9_take_12 rfl ?_
        refine zs_aload_n (pc := 13) C dX9_take_13 rfl ?_
        refine zs_iload_n (pc := 14) C dX9_take_14 rfl ?_
        refine zs_iload_n (pc := 15) C dX9_take_15 rfl ?_
        first | refine zs_iadd (pc := 16) C dX9_take_16 (by omega) ?_ | refine zs_iaddF (pc := 16) C dX9_take_16 (fun z16 hz161 hz162 => ?_)
        refine zs_iald (r := 2105) (pc := 17) C dX9_take_17 a_105 (by decide) (by omega) rfl (rg5_o (by omega)) (fun v17 e17 l17 u17 => ?_)
        refine zs_iast (r := 2081) (pc := 18) C dX9_take_18 a_81 (by decide) (by omega) rfl (r_2081 _) (by omega) ?_
        refine zs_aload_n (pc := 19) C dX9_take_19 rfl ?_
        refine zs_getf (pc := 20) C dX9_take_20 w_X9_91 f_10_52 (by decide) ?_
        refine zs_iload_n (pc := 23) C dX9_take_23 rfl ?_
        refine zs_aload_n (pc := 24) C dX9_take_24 rfl ?_
        refine zs_iload_n (pc := 25) C dX9_take_25 rfl ?_
        refine zs_bipush (pc := 26) C dX9_take_26 (by decide) (by decide) ?_
        first | refine zs_iadd (pc := 28) C dX9_take_28 (by omega) ?_ | refine zs_iaddF (pc := 28) C dX9_take_28 (fun z28 hz281 hz282 => ?_)
        refine zs_iload_n (pc := 29) C dX9_take_29 rfl ?_
        first | refine zs_iadd (pc := 30) C dX9_take_30 (by omega) ?_ | refine zs_iaddF (pc := 30) C dX9_take_30 (fun z30 hz301 hz302 => ?_)
        refine zs_iald (r := 2105) (pc := 31) C dX9_take_31 a_105 (by decide) (by omega) rfl (rg5_o (by omega)) (fun v31 e31 l31 u31 => ?_)
        try simp only [zuI_1, zuI_2, zuJ_1, zuJ_2, zuJ_3, zuP_1, zuP_2, zuP_3, zuC_1, zuC_2, reduceIte, Nat.reduceEqDiff, false_and, and_false, true_and, and_true, and_self, or_true, true_or, or_false, false_or] at e31
        refine zs_iast (r := 2082) (pc := 32) C dX9_take_32 a_82 (by decide) (by omega) rfl (r_2082 _) (by omega) ?_
        first | refine zs_iinc (pc := 33) C dX9_take_33 rfl (by decide) (by omega) ?_ | refine zs_iincF (pc := 33) C dX9_take_33 rfl (by decide) (fun z33 hz331 hz332 => ?_)
        dsimp only [zset, zclr, znone]
        refine zs_goto (tgt := 2) (pc := 36) C dX9_take_36 (by decide) ?_
        exact zs_wk (ih2 _ _ (by first | omega | (simp only [zuI_1, zuI_2, zuJ_1, zuJ_2, zuJ_3, zuP_1, zuP_2, zuP_3, zuC_1, zuC_2, reduceIte, Nat.reduceEqDiff, false_and, and_false, true_and, and_true, and_self, or_true, true_or, or_false, false_or]; omega)) (by repeat (first | exact zsm_rf | assumption | refine zsm_C (by decide) ?_ | refine zsm_I (by decide) ?_ | refine zsm_J ?_ | refine zsm_c (by assumption) (by decide) ?_)) (by first | omega | (simp only [zuI_1, zuI_2, zuJ_1, zuJ_2, zuJ_3, zuP_1, zuP_2, zuP_3, zuC_1, zuC_2, reduceIte, Nat.reduceEqDiff, false_and, and_false, true_and, and_true, and_self, or_true, true_or, or_false, false_or]; omega))) (zwk_s rfl (zwk_s rfl (zwk_s rfl (zwk_s rfl zwk_0))))
  exact zs_wk (L2 _ _ _ (by first | omega | (simp only [zuI_1, zuI_2, zuJ_1, zuJ_2, zuJ_3, zuP_1, zuP_2, zuP_3, zuC_1, zuC_2, reduceIte, Nat.reduceEqDiff, false_and, and_false, true_and, and_true, and_self, or_true, true_or, or_false, false_or]; omega)) (by repeat (first | exact zsm_rf | assumption | refine zsm_C (by decide) ?_ | refine zsm_I (by decide) ?_ | refine zsm_J ?_ | refine zsm_c (by assumption) (by decide) ?_)) (Nat.lt_succ_self _)) (zwk_s rfl (zwk_s rfl (zwk_s rfl (zwk_s rfl zwk_0))))

set_option maxHeartbeats 4000000 in
set_option maxRecDepth 100000 in
theorem c_X9_put6 {l : Launch} {Γ : zΓ} {G : zH} {w bb : Nat} {q : Int} (hX : zXs Γ) (hq : 0 ≤ q ∧ q ≤ 0 ∧ q % 127 = 0) : zMet l Γ yX9_put cX9_put 4 none 0 [zr 10 w, zr 106 bb, zi q] G (zpv (fun G' => zsm [2106] G G' ∧ True)) := by
  refine zMet_of RX9 hX (by decide) rfl (Nat.le_of_ble_eq_true rfl) ?_
  intro p e s m args below meth c C hr hlk
  show Z p l e (zrm 0) s m args below meth c Γ 4 0 0 (MQ below (zQc Γ (zpv (fun G' => zsm [2106] G G' ∧ True))) args s 0 0 (zA Γ)) 0 [some (zr 10 w), some (zr 106 bb), some (zi q), none] [] G
  refine zs_loc 2 rfl (fun ha2 hb2 => ?_)
  refine zs_iconst (pc := 0) C dX9_put_0 (by decide) ?_
  refine zs_istore_n (pc := 1) C dX9_put_1 (by decide) ?_
  dsimp only [zset, zclr, znone]
  have L2 : ∀ (nn : Nat) (x3 : Int) (G1 : zH), (0 ≤ x3 ∧ x3 ≤ 20) → (zsm [2106] G G1) → (20 - x3).toNat < nn → Z p l e (zrm 0) s m args below meth c Γ 4 0 0 (MQ below (zQc Γ (zpv (fun G' => zsm [2106] G G' ∧ True))) args s 0 0 (zA Γ)) 2 [some (zr 10 w), some (zr 106 bb), some (zi q), some (zi x3)] [] G1 := by
    intro nn
    induction nn with
    | zero => intro x3 G1 h2_0 h2_1 hm; exact absurd hm (Nat.not_lt_zero _)
    | succ nn ih2 =>
      intro x3 G1 h2_0 h2_1 hm2
      refine zs_iload_n (pc := 2) C dX9_put_2 rfl ?_
      refine zs_bipush (pc := 3) C dX9_put_3 (by decide) (by decide) ?_
      refine zs_icmp_ge (tgt := 39) (pc := 5) C dX9_put_5 (by decide) (fun h5 => ?_) (fun h5 => ?_)
      · skip
        refine zs_iconst (pc := 39) C dX9_put_39 (by decide) ?_
        refine zs_istore_n (pc := 40) C dX9_put_40 (by decide) ?_
        dsimp only [zset, zclr, znone]
        have L41 : ∀ (nn : Nat) (x3 : Int) (G2 : zH), (0 ≤ x3 ∧ x3 ≤ 5) → (zsm [2106] G G2) → (5 - x3).toNat < nn → Z p l e (zrm 0) s m args below meth c Γ 4 0 0 (MQ below (zQc Γ (zpv (fun G' => zsm [2106] G G' ∧ True))) args s 0 0 (zA Γ)) 41 [some (zr 10 w), some (zr 106 bb), some (zi q), some (zi x3)] [] G2 := by
          intro nn
          induction nn with
          | zero => intro x3 G2 h41_0 h41_1 hm; exact absurd hm (Nat.not_lt_zero _)
          | succ nn ih41 =>
            intro x3 G2 h41_0 h41_1 hm41
            refine zs_iload_n (pc := 41) C dX9_put_41 rfl ?_
            refine zs_iconst (pc := 42) C dX9_put_42 (by decide) ?_
            refine zs_icmp_ge (tgt := 108) (pc := 43) C dX9_put_43 (by decide) (fun h43 => ?_) (fun h43 => ?_)
            · skip
              refine zs_iconst (pc := 108) C dX9_put_108 (by decide) ?_
              refine zs_istore_n (pc := 109) C dX9_put_109 (by decide) ?_
              dsimp only [zset, zclr, znone]
              have L110 : ∀ (nn : Nat) (x3 : Int) (G3 : zH), (0 ≤ x3 ∧ x3 ≤ 60) → (zsm [2106] G G3) → (60 - x3).toNat < nn → Z p l e (zrm 0) s m args below meth c Γ 4 0 0 (MQ below (zQc Γ (zpv (fun G' => zsm [2106] G G' ∧ True))) args s 0 0 (zA Γ)) 110 [some (zr 10 w), some (zr 106 bb), some (zi q), some (zi x3)] [] G3 := by
                intro nn
                induction nn with
                | zero => intro x3 G3 h110_0 h110_1 hm; exact absurd hm (Nat.not_lt_zero _)
                | succ nn ih110 =>
                  intro x3 G3 h110_0 h110_1 hm110
                  refine zs_iload_n (pc := 110) C dX9_put_110 rfl ?_
                  refine zs_bipush (pc := 111) C dX9_put_111 (by decide) (by decide) ?_
                  refine zs_icmp_ge (tgt := 136) (pc := 113) C dX9_put_113 (by decide) (fun h113 => ?_) (fun h113 => ?_)
                  · skip
                    refine zs_aload_n (pc := 136) C dX9_put_136 rfl ?_
                    refine zs_iload_n (pc := 137) C dX9_put_137 rfl ?_
                    refine zs_bipush (pc := 138) C dX9_put_138 (by decide) (by decide) ?_
                    first | refine zs_iadd (pc := 140) C dX9_put_140 (by omega) ?_ | refine zs_iaddF (pc := 140) C dX9_put_140 (fun z140 hz1401 hz1402 => ?_)
                    refine zs_aload_n (pc := 141) C dX9_put_141 rfl ?_
                    refine zs_getf (pc := 142) C dX9_put_142 w_X9_106 f_10_57 (by decide) ?_
                    refine zs_iconst (pc := 145) C dX9_put_145 (by decide) ?_
                    refine zs_iald (r := 2087) (pc := 146) C dX9_put_146 a_87 (by decide) (by omega) rfl (r_2087 _) (fun v146 e146 l146 u146 => ?_)
                    refine zs_iast (r := 2106) (pc := 147) C dX9_put_147 a_106 (by decide) (by omega) rfl (rg6_n (by omega)) (by omega) ?_
                    refine zs_aload_n (pc := 148) C dX9_put_148 rfl ?_
                    refine zs_iload_n (pc := 149) C dX9_put_149 rfl ?_
                    refine zs_bipush (pc := 150) C dX9_put_150 (by decide) (by decide) ?_
                    first | refine zs_iadd (pc := 152) C dX9_put_152 (by omega) ?_ | refine zs_iaddF (pc := 152) C dX9_put_152 (fun z152 hz1521 hz1522 => ?_)
                    refine zs_aload_n (pc := 153) C dX9_put_153 rfl ?_
                    refine zs_getf (pc := 154) C dX9_put_154 w_X9_109 f_10_58 (by decide) ?_
                    refine zs_iconst (pc := 157) C dX9_put_157 (by decide) ?_
                    refine zs_iald (r := 2088) (pc := 158) C dX9_put_158 a_88 (by decide) (by omega) rfl (r_2088 _) (fun v158 e158 l158 u158 => ?_)
                    try simp only [zuI_1, zuI_2, zuJ_1, zuJ_2, zuJ_3, zuP_1, zuP_2, zuP_3, zuC_1, zuC_2, reduceIte, Nat.reduceEqDiff, false_and, and_false, true_and, and_true, and_self, or_true, true_or, or_false, false_or] at e158
                    refine zs_iast (r := 2106) (pc := 159) C dX9_put_159 a_106 (by decide) (by omega) rfl (rg6_o (by omega)) (by omega) ?_
                    refine zs_aload_n (pc := 160) C dX9_put_160 rfl ?_
                    refine zs_iload_n (pc := 161) C dX9_put_161 rfl ?_
                    refine zs_bipush (pc := 162) C dX9_put_162 (by decide) (by decide) ?_
                    first | refine zs_iadd (pc := 164) C dX9_put_164 (by omega) ?_ | refine zs_iaddF (pc := 164) C dX9_put_164 (fun z164 hz1641 hz1642 => ?_)
                    refine zs_aload_n (pc := 165) C dX9_put_165 rfl ?_
                    refine zs_getf (pc := 166) C dX9_put_166 w_X9_112 f_10_59 (by decide) ?_
                    refine zs_iconst (pc := 169) C dX9_put_169 (by decide) ?_
                    refine zs_iald (r := 2089) (pc := 170) C dX9_put_170 a_89 (by decide) (by omega) rfl (r_2089 _) (fun v170 e170 l170 u170 => ?_)
                    try simp only [zuI_1, zuI_2, zuJ_1, zuJ_2, zuJ_3, zuP_1, zuP_2, zuP_3, zuC_1, zuC_2, reduceIte, Nat.reduceEqDiff, false_and, and_false, true_and, and_true, and_self, or_true, true_or, or_false, false_or] at e170
                    refine zs_iast (r := 2106) (pc := 171) C dX9_put_171 a_106 (by decide) (by omega) rfl (rg6_o (by omega)) (by omega) ?_
                    refine zs_aload_n (pc := 172) C dX9_put_172 rfl ?_
                    refine zs_iload_n (pc := 173) C dX9_put_173 rfl ?_
                    refine zs_bipush (pc := 174) C dX9_put_174 (by decide) (by decide) ?_
                    first | refine zs_iadd (pc := 176) C dX9_put_176 (by omega) ?_ | refine zs_iaddF (pc := 176) C dX9_put_176 (fun z176 hz1761 hz1762 => ?_)
                    refine zs_aload_n (pc := 177) C dX9_put_177 rfl ?_
                    refine zs_getf (pc := 178) C dX9_put_178 w_X9_115 f_10_60 (by decide) ?_
                    refine zs_iconst (pc := 181) C dX9_put_181 (by decide) ?_
                    refine zs_iald (r := 2090) (pc := 182) C dX9_put_182 a_90 (by decide) (by omega) rfl (r_2090 _) (fun v182 e182 l182 u182 => ?_)
                    try simp only [zuI_1, zuI_2, zuJ_1, zuJ_2, zuJ_3, zuP_1, zuP_2, zuP_3, zuC_1, zuC_2, reduceIte, Nat.reduceEqDiff, false_and, and_false, true_and, and_true, and_self, or_true, true_or, or_false, false_or] at e182
                    refine zs_iast (r := 2106) (pc := 183) C dX9_put_183 a_106 (by decide) (by omega) rfl (rg6_o (by omega)) (by omega) ?_
                    exact zs_vret (pc := 184) C hr hlk dX9_put_184 ⟨by repeat (first | exact zsm_rf | assumption | refine zsm_C (by decide) ?_ | refine zsm_I (by decide) ?_ | refine zsm_J ?_ | refine zsm_c (by assumption) (by decide) ?_), trivial⟩
                  · skip
                    refine zs_aload_n (pc := 116) C dX9_put_116 rfl ?_
                    refine zs_iload_n (pc := 117) C dX9_put_117 rfl ?_
                    refine zs_bipush (pc := 118) C dX9_put_118 (by decide) (by decide) ?_
                    first | refine zs_iadd (pc := 120) C dX9_put_120 (by omega) ?_ | refine zs_iaddF (pc := 120) C dX9_put_120 (fun z120 hz1201 hz1202 => ?_)
                    refine zs_iload_n (pc := 121) C dX9_put_121 rfl ?_
                    first | refine zs_iadd (pc := 122) C dX9_put_122 (by omega) ?_ | refine zs_iaddF (pc := 122) C dX9_put_122 (fun z122 hz1221 hz1222 => ?_)
                    refine zs_aload_n (pc := 123) C dX9_put_123 rfl ?_
                    refine zs_getf (pc := 124) C dX9_put_124 w_X9_127 f_10_65 (by decide) ?_
                    refine zs_iload_n (pc := 127) C dX9_put_127 rfl ?_
                    refine zs_iald (r := 2094) (pc := 128) C dX9_put_128 a_94 (by decide) (by omega) rfl (r_2094 _) (fun v128 e128 l128 u128 => ?_)
                    refine zs_iast (r := 2106) (pc := 129) C dX9_put_129 a_106 (by decide) (by omega) rfl (rg6_h (by omega)) (by omega) ?_
                    first | refine zs_iinc (pc := 130) C dX9_put_130 rfl (by decide) (by omega) ?_ | refine zs_iincF (pc := 130) C dX9_put_130 rfl (by decide) (fun z130 hz1301 hz1302 => ?_)
                    dsimp only [zset, zclr, znone]
                    refine zs_goto (tgt := 110) (pc := 133) C dX9_put_133 (by decide) ?_
                    exact zs_wk (ih110 _ _ (by first | omega | (simp only [zuI_1, zuI_2, zuJ_1, zuJ_2, zuJ_3, zuP_1, zuP_2, zuP_3, zuC_1, zuC_2, reduceIte, Nat.reduceEqDiff, false_and, and_false, true_and, and_true, and_self, or_true, true_or, or_false, false_or]; omega)) (by repeat (first | exact zsm_rf | assumption | refine zsm_C (by decide) ?_ | refine zsm_I (by decide) ?_ | refine zsm_J ?_ | refine zsm_c (by assumption) (by decide) ?_)) (by first | omega | (simp only [zuI_1, zuI_2, zuJ_1, zuJ_2, zuJ_3, zuP_1, zuP_2, zuP_3, zuC_1, zuC_2, reduceIte, Nat.reduceEqDiff, false_and, and_false, true_and, and_true, and_self, or_true, true_or, or_false, false_or]; omega))) (zwk_s rfl (zwk_s rfl (zwk_s rfl (zwk_s rfl zwk_0))))
              exact zs_wk (L110 _ _ _ (by first | omega | (simp only [zuI_1, zuI_2, zuJ_1, zuJ_2, zuJ_3, zuP_1, zuP_2, zuP_3, zuC_1, zuC_2, reduceIte, Nat.reduceEqDiff, false_and, and_false, true_and, and_true, and_self, or_true, true_or, or_false, false_or]; omega)) (by repeat (first | exact zsm_rf | assumption | refine zsm_C (by decide) ?_ | refine zsm_I (by decide) ?_ | refine zsm_J ?_ | refine zsm_c (by assumption) (by decide) ?_)) (Nat.lt_succ_self _)) (zwk_s rfl (zwk_s rfl (zwk_s rfl (zwk_s rfl zwk_0))))
            · skip
              refine zs_aload_n (pc := 46) C dX9_put_46 rfl ?_
              refine zs_iload_n (pc := 47) C dX9_put_47 rfl ?_
              refine zs_bipush (pc := 48) C dX9_put_48 (by decide) (by decide) ?_
              first | refine zs_iadd (pc := 50) C dX9_put_50 (by omega) ?_ | refine zs_iaddF (pc := 50) C dX9_put_50 (fun z50 hz501 hz502 => ?_)
              refine zs_iload_n (pc := 51) C dX9_put_51 rfl ?_
              first | refine zs_iadd (pc := 52) C dX9_put_52 (by omega) ?_ | refine zs_iaddF (pc := 52) C dX9_put_52 (fun z52 hz521 hz522 => ?_)
              refine zs_aload_n (pc := 53) C dX9_put_53 rfl ?_
              refine zs_getf (pc := 54) C dX9_put_54 w_X9_94 f_10_53 (by decide) ?_
              refine zs_iload_n (pc := 57) C dX9_put_57 rfl ?_
              refine zs_iald (r := 2083) (pc := 58) C dX9_put_58 a_83 (by decide) (by omega) rfl (r_2083 _) (fun v58 e58 l58 u58 => ?_)
              refine zs_iast (r := 2106) (pc := 59) C dX9_put_59 a_106 (by decide) (by omega) rfl (rg6_o (by omega)) (by omega) ?_
              refine zs_aload_n (pc := 60) C dX9_put_60 rfl ?_
              refine zs_iload_n (pc := 61) C dX9_put_61 rfl ?_
              refine zs_bipush (pc := 62) C dX9_put_62 (by decide) (by decide) ?_
              first | refine zs_iadd (pc := 64) C dX9_put_64 (by omega) ?_ | refine zs_iaddF (pc := 64) C dX9_put_64 (fun z64 hz641 hz642 => ?_)
              refine zs_iload_n (pc := 65) C dX9_put_65 rfl ?_
              first | refine zs_iadd (pc := 66) C dX9_put_66 (by omega) ?_ | refine zs_iaddF (pc := 66) C dX9_put_66 (fun z66 hz661 hz662 => ?_)
              refine zs_aload_n (pc := 67) C dX9_put_67 rfl ?_
              refine zs_getf (pc := 68) C dX9_put_68 w_X9_97 f_10_54 (by decide) ?_
              refine zs_iload_n (pc := 71) C dX9_put_71 rfl ?_
              refine zs_iald (r := 2084) (pc := 72) C dX9_put_72 a_84 (by decide) (by omega) rfl (r_2084 _) (fun v72 e72 l72 u72 => ?_)
              try simp only [zuI_1, zuI_2, zuJ_1, zuJ_2, zuJ_3, zuP_1, zuP_2, zuP_3, zuC_1, zuC_2, reduceIte, Nat.reduceEqDiff, false_and, and_false, true_and, and_true, and_self, or_true, true_or, or_false, false_or] at e72
              refine zs_iast (r := 2106) (pc := 73) C dX9_put_73 a_106 (by decide) (by omega) rfl (rg6_o (by omega)) (by omega) ?_
              refine zs_aload_n (pc := 74) C dX9_put_74 rfl ?_
              refine zs_iload_n (pc := 75) C dX9_put_75 rfl ?_
              refine zs_bipush (pc := 76) C dX9_put_76 (by decide) (by decide) ?_
              first | refine zs_iadd (pc := 78) C dX9_put_78 (by omega) ?_ | refine zs_iaddF (pc := 78) C dX9_put_78 (fun z78 hz781 hz782 => ?_)
              refine zs_iload_n (pc := 79) C dX9_put_79 rfl ?_
              first | refine zs_iadd (pc := 80) C dX9_put_80 (by omega) ?_ | refine zs_iaddF (pc := 80) C dX9_put_80 (fun z80 hz801 hz802 => ?_)
              refine zs_aload_n (pc := 81) C dX9_put_81 rfl ?_
              refine zs_getf (pc := 82) C dX9_put_82 w_X9_100 f_10_55 (by decide) ?_
              refine zs_iload_n (pc := 85) C dX9_put_85 rfl ?_
              refine zs_iald (r := 2085) (pc := 86) C dX9_put_86 a_85 (by decide) (by omega) rfl (r_2085 _) (fun v86 e86 l86 u86 => ?_)
              try simp only [zuI_1, zuI_2, zuJ_1, zuJ_2, zuJ_3, zuP_1, zuP_2, zuP_3, zuC_1, zuC_2, reduceIte, Nat.reduceEqDiff, false_and, and_false, true_and, and_true, and_self, or_true, true_or, or_false, false_or] at e86
              refine zs_iast (r := 2106) (pc := 87) C dX9_put_87 a_106 (by decide) (by omega) rfl (rg6_o (by omega)) (by omega) ?_
              refine zs_aload_n (pc := 88) C dX9_put_88 rfl ?_
              refine zs_iload_n (pc := 89) C dX9_put_89 rfl ?_
              refine zs_bipush (pc := 90) C dX9_put_90 (by decide) (by decide) ?_
              first | refine zs_iadd (pc := 92) C dX9_put_92 (by omega) ?_ | refine zs_iaddF (pc := 92) C dX9_put_92 (fun z92 hz921 hz922 => ?_)
              refine zs_iload_n (pc := 93) C dX9_put_93 rfl ?_
              first | refine zs_iadd (pc := 94) C dX9_put_94 (by omega) ?_ | refine zs_iaddF (pc := 94) C dX9_put_94 (fun z94 hz941 hz942 => ?_)
              refine zs_aload_n (pc := 95) C dX9_put_95 rfl ?_
              refine zs_getf (pc := 96) C dX9_put_96 w_X9_103 f_10_56 (by decide) ?_
              refine zs_iload_n (pc := 99) C dX9_put_99 rfl ?_
              refine zs_iald (r := 2086) (pc := 100) C dX9_put_100 a_86 (by decide) (by omega) rfl (r_2086 _) (fun v100 e100 l100 u100 => ?_)
              try simp only [zuI_1, zuI_2, zuJ_1, zuJ_2, zuJ_3, zuP_1, zuP_2, zuP_3, zuC_1, zuC_2, reduceIte, Nat.reduceEqDiff, false_and, and_false, true_and, and_true, and_self, or_true, true_or, or_false, false_or] at e100
              refine zs_iast (r := 2106) (pc := 101) C dX9_put_101 a_106 (by decide) (by omega) rfl (rg6_o (by omega)) (by omega) ?_
              first | refine zs_iinc (pc := 102) C dX9_put_102 rfl (by decide) (by omega) ?_ | refine zs_iincF (pc := 102) C dX9_put_102 rfl (by decide) (fun z102 hz1021 hz1022 => ?_)
              dsimp only [zset, zclr, znone]
              refine zs_goto (tgt := 41) (pc := 105) C dX9_put_105 (by decide) ?_
              exact zs_wk (ih41 _ _ (by first | omega | (simp only [zuI_1, zuI_2, zuJ_1, zuJ_2, zuJ_3, zuP_1, zuP_2, zuP_3, zuC_1, zuC_2, reduceIte, Nat.reduceEqDiff, false_and, and_false, true_and, and_true, and_self, or_true, true_or, or_false, false_or]; omega)) (by repeat (first | exact zsm_rf | assumption | refine zsm_C (by decide) ?_ | refine zsm_I (by decide) ?_ | refine zsm_J ?_ | refine zsm_c (by assumption) (by decide) ?_)) (by first | omega | (simp only [zuI_1, zuI_2, zuJ_1, zuJ_2, zuJ_3, zuP_1, zuP_2, zuP_3, zuC_1, zuC_2, reduceIte, Nat.reduceEqDiff, false_and, and_false, true_and, and_true, and_self, or_true, true_or, or_false, false_or]; omega))) (zwk_s rfl (zwk_s rfl (zwk_s rfl (zwk_s rfl zwk_0))))
        exact zs_wk (L41 _ _ _ (by first | omega | (simp only [zuI_1, zuI_2, zuJ_1, zuJ_2, zuJ_3, zuP_1, zuP_2, zuP_3, zuC_1, zuC_2, reduceIte, Nat.reduceEqDiff, false_and, and_false, true_and, and_true, and_self, or_true, true_or, or_false, false_or]; omega)) (by repeat (first | exact zsm_rf | assumption | refine zsm_C (by decide) ?_ | refine zsm_I (by decide) ?_ | refine zsm_J ?_ | refine zsm_c (by assumption) (by decide) ?_)) (Nat.lt_succ_self _)) (zwk_s rfl (zwk_s rfl (zwk_s rfl (zwk_s rfl zwk_0))))
      · skip
        refine zs_aload_n (pc := 8) C dX9_put_8 rfl ?_
        refine zs_iload_n (pc := 9) C dX9_put_9 rfl ?_
        refine zs_iload_n (pc := 10) C dX9_put_10 rfl ?_
        first | refine zs_iadd (pc := 11) C dX9_put_11 (by omega) ?_ | refine zs_iaddF (pc := 11) C dX9_put_11 (fun z11 hz111 hz112 => ?_)
        refine zs_aload_n (pc := 12) C dX9_put_12 rfl ?_
        refine zs_getf (pc := 13) C dX9_put_13 w_X9_88 f_10_51 (by decide) ?_
        refine zs_iload_n (pc := 16) C dX9_put_16 rfl ?_
        refine zs_iald (r := 2081) (pc := 17) C dX9_put_17 a_81 (by decide) (by omega) rfl (r_2081 _) (fun v17 e17 l17 u17 => ?_)
        refine zs_iast (r := 2106) (pc := 18) C dX9_put_18 a_106 (by decide) (by omega) rfl (rg6_o (by omega)) (by omega) ?_
        refine zs_aload_n (pc := 19) C dX9_put_19 rfl ?_
        refine zs_iload_n (pc := 20) C dX9_put_20 rfl ?_
        refine zs_bipush (pc := 21) C dX9_put_21 (by decide) (by decide) ?_
        first | refine zs_iadd (pc := 23) C dX9_put_23 (by omega) ?_ | refine zs_iaddF (pc := 23) C dX9_put_23 (fun z23 hz231 hz232 => ?_)
        refine zs_iload_n (pc := 24) C dX9_put_24 rfl ?_
        first | refine zs_iadd (pc := 25) C dX9_put_25 (by omega) ?_ | refine zs_iaddF (pc := 25) C dX9_put_25 (fun z25 hz251 hz252 => ?_)
        refine zs_aload_n (pc := 26) C dX9_put_26 rfl ?_
        refine zs_getf (pc := 27) C dX9_put_27 w_X9_91 f_10_52 (by decide) ?_
        refine zs_iload_n (pc := 30) C dX9_put_30 rfl ?_
        refine zs_iald (r := 2082) (pc := 31) C dX9_put_31 a_82 (by decide) (by omega) rfl (r_2082 _) (fun v31 e31 l31 u31 => ?_)
        try simp only [zuI_1, zuI_2, zuJ_1, zuJ_2, zuJ_3, zuP_1, zuP_2, zuP_3, zuC_1, zuC_2, reduceIte, Nat.reduceEqDiff, false_and, and_false, true_and, and_true, and_self, or_true, true_or, or_false, false_or] at e31
        refine zs_iast (r := 2106) (pc := 32) C dX9_put_32 a_106 (by decide) (by omega) rfl (rg6_o (by omega)) (by omega) ?_
        first | refine zs_iinc (pc := 33) C dX9_put_33 rfl (by decide) (by omega) ?_ | refine zs_iincF (pc := 33) C dX9_put_33 rfl (by decide) (fun z33 hz331 hz332 => ?_)
        dsimp only [zset, zclr, znone]
        refine zs_goto (tgt := 2) (pc := 36) C dX9_put_36 (by decide) ?_
        exact zs_wk (ih2 _ _ (by first | omega | (simp only [zuI_1, zuI_2, zuJ_1, zuJ_2, zuJ_3, zuP_1, zuP_2, zuP_3, zuC_1, zuC_2, reduceIte, Nat.reduceEqDiff, false_and, and_false, true_and, and_true, and_self, or_true, true_or, or_false, false_or]; omega)) (by repeat (first | exact zsm_rf | assumption | refine zsm_C (by decide) ?_ | refine zsm_I (by decide) ?_ | refine zsm_J ?_ | refine zsm_c (by assumption) (by decide) ?_)) (by first | omega | (simp only [zuI_1, zuI_2, zuJ_1, zuJ_2, zuJ_3, zuP_1, zuP_2, zuP_3, zuC_1, zuC_2, reduceIte, Nat.reduceEqDiff, false_and, and_false, true_and, and_true, and_self, or_true, true_or, or_false, false_or]; omega))) (zwk_s rfl (zwk_s rfl (zwk_s rfl (zwk_s rfl zwk_0))))
  exact zs_wk (L2 _ _ _ (by first | omega | (simp only [zuI_1, zuI_2, zuJ_1, zuJ_2, zuJ_3, zuP_1, zuP_2, zuP_3, zuC_1, zuC_2, reduceIte, Nat.reduceEqDiff, false_and, and_false, true_and, and_true, and_self, or_true, true_or, or_false, false_or]; omega)) (by repeat (first | exact zsm_rf | assumption | refine zsm_C (by decide) ?_ | refine zsm_I (by decide) ?_ | refine zsm_J ?_ | refine zsm_c (by assumption) (by decide) ?_)) (Nat.lt_succ_self _)) (zwk_s rfl (zwk_s rfl (zwk_s rfl (zwk_s rfl zwk_0))))

set_option maxHeartbeats 4000000 in
set_option maxRecDepth 100000 in
theorem c_X9_take6 {l : Launch} {Γ : zΓ} {G : zH} {w bb : Nat} {q : Int} (hX : zXs Γ) (hq : 0 ≤ q ∧ q ≤ 0 ∧ q % 127 = 0) : zMet l Γ yX9_take cX9_take 4 none 0 [zr 10 w, zr 106 bb, zi q] G (zpv (fun G' => zsm [2081, 2082, 2083, 2084, 2085, 2086, 2087, 2088, 2089, 2090, 2094] G G' ∧ True)) := by
  refine zMet_of RX9 hX (by decide) rfl (Nat.le_of_ble_eq_true rfl) ?_
  intro p e s m args below meth c C hr hlk
  show Z p l e (zrm 0) s m args below meth c Γ 4 0 0 (MQ below (zQc Γ (zpv (fun G' => zsm [2081, 2082, 2083, 2084, 2085, 2086, 2087, 2088, 2089, 2090, 2094] G G' ∧ True))) args s 0 0 (zA Γ)) 0 [some (zr 10 w), some (zr 106 bb), some (zi q), none] [] G
  refine zs_loc 2 rfl (fun ha2 hb2 => ?_)
  refine zs_iconst (pc := 0) C dX9_take_0 (by decide) ?_
  refine zs_istore_n (pc := 1) C dX9_take_1 (by decide) ?_
  dsimp only [zset, zclr, znone]
  have L2 : ∀ (nn : Nat) (x3 : Int) (G1 : zH), (0 ≤ x3 ∧ x3 ≤ 20) → (zsm [2081, 2082, 2083, 2084, 2085, 2086, 2087, 2088, 2089, 2090, 2094] G G1) → (20 - x3).toNat < nn → Z p l e (zrm 0) s m args below meth c Γ 4 0 0 (MQ below (zQc Γ (zpv (fun G' => zsm [2081, 2082, 2083, 2084, 2085, 2086, 2087, 2088, 2089, 2090, 2094] G G' ∧ True))) args s 0 0 (zA Γ)) 2 [some (zr 10 w), some (zr 106 bb), some (zi q), some (zi x3)] [] G1 := by
    intro nn
    induction nn with
    | zero => intro x3 G1 h2_0 h2_1 hm; exact absurd hm (Nat.not_lt_zero _)
    | succ nn ih2 =>
      intro x3 G1 h2_0 h2_1 hm2
      refine zs_iload_n (pc := 2) C dX9_take_2 rfl ?_
      refine zs_bipush (pc := 3) C dX9_take_3 (by decide) (by decide) ?_
      refine zs_icmp_ge (tgt := 39) (pc := 5) C dX9_take_5 (by decide) (fun h5 => ?_) (fun h5 => ?_)
      · skip
        refine zs_iconst (pc := 39) C dX9_take_39 (by decide) ?_
        refine zs_istore_n (pc := 40) C dX9_take_40 (by decide) ?_
        dsimp only [zset, zclr, znone]
        have L41 : ∀ (nn : Nat) (x3 : Int) (G2 : zH), (0 ≤ x3 ∧ x3 ≤ 5) → (zsm [2081, 2082, 2083, 2084, 2085, 2086, 2087, 2088, 2089, 2090, 2094] G G2) → (5 - x3).toNat < nn → Z p l e (zrm 0) s m args below meth c Γ 4 0 0 (MQ below (zQc Γ (zpv (fun G' => zsm [2081, 2082, 2083, 2084, 2085, 2086, 2087, 2088, 2089, 2090, 2094] G G' ∧ True))) args s 0 0 (zA Γ)) 41 [some (zr 10 w), some (zr 106 bb), some (zi q), some (zi x3)] [] G2 := by
          intro nn
          induction nn with
          | zero => intro x3 G2 h41_0 h41_1 hm; exact absurd hm (Nat.not_lt_zero _)
          | succ nn ih41 =>
            intro x3 G2 h41_0 h41_1 hm41
            refine zs_iload_n (pc := 41) C dX9_take_41 rfl ?_
            refine zs_iconst (pc := 42) C dX9_take_42 (by decide) ?_
            refine zs_icmp_ge (tgt := 108) (pc := 43) C dX9_take_43 (by decide) (fun h43 => ?_) (fun h43 => ?_)
            · skip
              refine zs_iconst (pc := 108) C dX9_take_108 (by decide) ?_
              refine zs_istore_n (pc := 109) C dX9_take_109 (by decide) ?_
              dsimp only [zset, zclr, znone]
              have L110 : ∀ (nn : Nat) (x3 : Int) (G3 : zH), (0 ≤ x3 ∧ x3 ≤ 60) → (zsm [2081, 2082, 2083, 2084, 2085, 2086, 2087, 2088, 2089, 2090, 2094] G G3) → (60 - x3).toNat < nn → Z p l e (zrm 0) s m args below meth c Γ 4 0 0 (MQ below (zQc Γ (zpv (fun G' => zsm [2081, 2082, 2083, 2084, 2085, 2086, 2087, 2088, 2089, 2090, 2094] G G' ∧ True))) args s 0 0 (zA Γ)) 110 [some (zr 10 w), some (zr 106 bb), some (zi q), some (zi x3)] [] G3 := by
                intro nn
                induction nn with
                | zero => intro x3 G3 h110_0 h110_1 hm; exact absurd hm (Nat.not_lt_zero _)
                | succ nn ih110 =>
                  intro x3 G3 h110_0 h110_1 hm110
                  refine zs_iload_n (pc := 110) C dX9_take_110 rfl ?_
                  refine zs_bipush (pc := 111) C dX9_take_111 (by decide) (by decide) ?_
                  refine zs_icmp_ge (tgt := 136) (pc := 113) C dX9_take_113 (by decide) (fun h113 => ?_) (fun h113 => ?_)
                  · skip
                    refine zs_aload_n (pc := 136) C dX9_take_136 rfl ?_
                    refine zs_getf (pc := 137) C dX9_take_137 w_X9_106 f_10_57 (by decide) ?_
                    refine zs_iconst (pc := 140) C dX9_take_140 (by decide) ?_
                    refine zs_aload_n (pc := 141) C dX9_take_141 rfl ?_
                    refine zs_iload_n (pc := 142) C dX9_take_142 rfl ?_
                    refine zs_bipush (pc := 143) C dX9_take_143 (by decide) (by decide) ?_
                    first | refine zs_iadd (pc := 145) C dX9_take_145 (by omega) ?_ | refine zs_iaddF (pc := 145) C dX9_take_145 (fun z145 hz1451 hz1452 => ?_)
                    refine zs_iald (r := 2106) (pc := 146) C dX9_take_146 a_106 (by decide) (by omega) rfl (rg6_n (by omega)) (fun v146 e146 l146 u146 => ?_)
                    refine zs_iast (r := 2087) (pc := 147) C dX9_take_147 a_87 (by decide) (by omega) rfl (r_2087 _) (by omega) ?_
                    refine zs_aload_n (pc := 148) C dX9_take_148 rfl ?_
                    refine zs_getf (pc := 149) C dX9_take_149 w_X9_109 f_10_58 (by decide) ?_
                    refine zs_iconst (pc := 152) C dX9_take_152 (by decide) ?_
                    refine zs_aload_n (pc := 153) C dX9_take_153 rfl ?_
                    refine zs_iload_n (pc := 154) C dX9_take_154 rfl ?_
                    refine zs_bipush (pc := 155) C dX9_take_155 (by decide) (by decide) ?_
                    first | refine zs_iadd (pc := 157) C dX9_take_157 (by omega) ?_ | refine zs_iaddF (pc := 157) C dX9_take_157 (fun z157 hz1571 hz1572 => ?_)
                    refine zs_iald (r := 2106) (pc := 158) C dX9_take_158 a_106 (by decide) (by omega) rfl (rg6_o (by omega)) (fun v158 e158 l158 u158 => ?_)
                    try simp only [zuI_1, zuI_2, zuJ_1, zuJ_2, zuJ_3, zuP_1, zuP_2, zuP_3, zuC_1, zuC_2, reduceIte, Nat.reduceEqDiff, false_and, and_false, true_and, and_true, and_self, or_true, true_or, or_false, false_or] at e158
                    refine zs_iast (r := 2088) (pc := 159) C dX9_take_159 a_88 (by decide) (by omega) rfl (r_2088 _) (by omega) ?_
                    refine zs_aload_n (pc := 160) C dX9_take_160 rfl ?_
                    refine zs_getf (pc := 161) C dX9_take_161 w_X9_112 f_10_59 (by decide) ?_
                    refine zs_iconst (pc := 164) C dX9_take_164 (by decide) ?_
                    refine zs_aload_n (pc := 165) C dX9_take_165 rfl ?_
                    refine zs_iload_n (pc := 166) C dX9_take_166 rfl ?_
                    refine zs_bipush (pc := 167) C dX9_take_167 (by decide) (by decide) ?_
                    first | refine zs_iadd (pc := 169) C dX9_take_169 (by omega) ?_ | refine zs_iaddF (pc := 169) C dX9_take_169 (fun z169 hz1691 hz1692 => ?_)
                    refine zs_iald (r := 2106) (pc := 170) C dX9_take_170 a_106 (by decide) (by omega) rfl (rg6_o (by omega)) (fun v170 e170 l170 u170 => ?_)
                    try simp only [zuI_1, zuI_2, zuJ_1, zuJ_2, zuJ_3, zuP_1, zuP_2, zuP_3, zuC_1, zuC_2, reduceIte, Nat.reduceEqDiff, false_and, and_false, true_and, and_true, and_self, or_true, true_or, or_false, false_or] at e170
                    refine zs_iast (r := 2089) (pc := 171) C dX9_take_171 a_89 (by decide) (by omega) rfl (r_2089 _) (by omega) ?_
                    refine zs_aload_n (pc := 172) C dX9_take_172 rfl ?_
                    refine zs_getf (pc := 173) C dX9_take_173 w_X9_115 f_10_60 (by decide) ?_
                    refine zs_iconst (pc := 176) C dX9_take_176 (by decide) ?_
                    refine zs_aload_n (pc := 177) C dX9_take_177 rfl ?_
                    refine zs_iload_n (pc := 178) C dX9_take_178 rfl ?_
                    refine zs_bipush (pc := 179) C dX9_take_179 (by decide) (by decide) ?_
                    first | refine zs_iadd (pc := 181) C dX9_take_181 (by omega) ?_ | refine zs_iaddF (pc := 181) C dX9_take_181 (fun z181 hz1811 hz1812 => ?_)
                    refine zs_iald (r := 2106) (pc := 182) C dX9_take_182 a_106 (by decide) (by omega) rfl (rg6_o (by omega)) (fun v182 e182 l182 u182 => ?_)
                    try simp only [zuI_1, zuI_2, zuJ_1, zuJ_2, zuJ_3, zuP_1, zuP_2, zuP_3, zuC_1, zuC_2, reduceIte, Nat.reduceEqDiff, false_and, and_false, true_and, and_true, and_self, or_true, true_or, or_false, false_or] at e182
                    refine zs_iast (r := 2090) (pc := 183) C dX9_take_183 a_90 (by decide) (by omega) rfl (r_2090 _) (by omega) ?_
                    exact zs_vret (pc := 184) C hr hlk dX9_take_184 ⟨by repeat (first | exact zsm_rf | assumption | refine zsm_C (by decide) ?_ | refine zsm_I (by decide) ?_ | refine zsm_J ?_ | refine zsm_c (by assumption) (by decide) ?_), trivial⟩
                  · skip
                    refine zs_aload_n (pc := 116) C dX9_take_116 rfl ?_
                    refine zs_getf (pc := 117) C dX9_take_117 w_X9_127 f_10_65 (by decide) ?_
                    refine zs_iload_n (pc := 120) C dX9_take_120 rfl ?_
                    refine zs_aload_n (pc := 121) C dX9_take_121 rfl ?_
                    refine zs_iload_n (pc := 122) C dX9_take_122 rfl ?_
                    refine zs_bipush (pc := 123) C dX9_take_123 (by decide) (by decide) ?_
                    first | refine zs_iadd (pc := 125) C dX9_take_125 (by omega) ?_ | refine zs_iaddF (pc := 125) C dX9_take_125 (fun z125 hz1251 hz1252 => ?_)
                    refine zs_iload_n (pc := 126) C dX9_take_126 rfl ?_
                    first | refine zs_iadd (pc := 127) C dX9_take_127 (by omega) ?_ | refine zs_iaddF (pc := 127) C dX9_take_127 (fun z127 hz1271 hz1272 => ?_)
                    refine zs_iald (r := 2106) (pc := 128) C dX9_take_128 a_106 (by decide) (by omega) rfl (rg6_h (by omega)) (fun v128 e128 l128 u128 => ?_)
                    refine zs_iast (r := 2094) (pc := 129) C dX9_take_129 a_94 (by decide) (by omega) rfl (r_2094 _) (by omega) ?_
                    first | refine zs_iinc (pc := 130) C dX9_take_130 rfl (by decide) (by omega) ?_ | refine zs_iincF (pc := 130) C dX9_take_130 rfl (by decide) (fun z130 hz1301 hz1302 => ?_)
                    dsimp only [zset, zclr, znone]
                    refine zs_goto (tgt := 110) (pc := 133) C dX9_take_133 (by decide) ?_
                    exact zs_wk (ih110 _ _ (by first | omega | (simp only [zuI_1, zuI_2, zuJ_1, zuJ_2, zuJ_3, zuP_1, zuP_2, zuP_3, zuC_1, zuC_2, reduceIte, Nat.reduceEqDiff, false_and, and_false, true_and, and_true, and_self, or_true, true_or, or_false, false_or]; omega)) (by repeat (first | exact zsm_rf | assumption | refine zsm_C (by decide) ?_ | refine zsm_I (by decide) ?_ | refine zsm_J ?_ | refine zsm_c (by assumption) (by decide) ?_)) (by first | omega | (simp only [zuI_1, zuI_2, zuJ_1, zuJ_2, zuJ_3, zuP_1, zuP_2, zuP_3, zuC_1, zuC_2, reduceIte, Nat.reduceEqDiff, false_and, and_false, true_and, and_true, and_self, or_true, true_or, or_false, false_or]; omega))) (zwk_s rfl (zwk_s rfl (zwk_s rfl (zwk_s rfl zwk_0))))
              exact zs_wk (L110 _ _ _ (by first | omega | (simp only [zuI_1, zuI_2, zuJ_1, zuJ_2, zuJ_3, zuP_1, zuP_2, zuP_3, zuC_1, zuC_2, reduceIte, Nat.reduceEqDiff, false_and, and_false, true_and, and_true, and_self, or_true, true_or, or_false, false_or]; omega)) (by repeat (first | exact zsm_rf | assumption | refine zsm_C (by decide) ?_ | refine zsm_I (by decide) ?_ | refine zsm_J ?_ | refine zsm_c (by assumption) (by decide) ?_)) (Nat.lt_succ_self _)) (zwk_s rfl (zwk_s rfl (zwk_s rfl (zwk_s rfl zwk_0))))
            · skip
              refine zs_aload_n (pc := 46) C dX9_take_46 rfl ?_
              refine zs_getf (pc := 47) C dX9_take_47 w_X9_94 f_10_53 (by decide) ?_
              refine zs_iload_n (pc := 50) C dX9_take_50 rfl ?_
              refine zs_aload_n (pc := 51) C dX9_take_51 rfl ?_
              refine zs_iload_n (pc := 52) C dX9_take_52 rfl ?_
              refine zs_bipush (pc := 53) C dX9_take_53 (by decide) (by decide) ?_
              first | refine zs_iadd (pc := 55) C dX9_take_55 (by omega) ?_ | refine zs_iaddF (pc := 55) C dX9_take_55 (fun z55 hz551 hz552 => ?_)
              refine zs_iload_n (pc := 56) C dX9_take_56 rfl ?_
              first | refine zs_iadd (pc := 57) C dX9_take_57 (by omega) ?_ | refine zs_iaddF (pc := 57) C dX9_take_57 (fun z57 hz571 hz572 => ?_)
              refine zs_iald (r := 2106) (pc := 58) C dX9_take_58 a_106 (by decide) (by omega) rfl (rg6_o (by omega)) (fun v58 e58 l58 u58 => ?_)
              refine zs_iast (r := 2083) (pc := 59) C dX9_take_59 a_83 (by decide) (by omega) rfl (r_2083 _) (by omega) ?_
              refine zs_aload_n (pc := 60) C dX9_take_60 rfl ?_
              refine zs_getf (pc := 61) C dX9_take_61 w_X9_97 f_10_54 (by decide) ?_
              refine zs_iload_n (pc := 64) C dX9_take_64 rfl ?_
              refine zs_aload_n (pc := 65) C dX9_take_65 rfl ?_
              refine zs_iload_n (pc := 66) C dX9_take_66 rfl ?_
              refine zs_bipush (pc := 67) C dX9_take_67 (by decide) (by decide) ?_
              first | refine zs_iadd (pc := 69) C dX9_take_69 (by omega) ?_ | refine zs_iaddF (pc := 69) C dX9_take_69 (fun z69 hz691 hz692 => ?_)
              refine zs_iload_n (pc := 70) C dX9_take_70 rfl ?_
              first | refine zs_iadd (pc := 71) C dX9_take_71 (by omega) ?_ | refine zs_iaddF (pc := 71) C dX9_take_71 (fun z71 hz711 hz712 => ?_)
              refine zs_iald (r := 2106) (pc := 72) C dX9_take_72 a_106 (by decide) (by omega) rfl (rg6_o (by omega)) (fun v72 e72 l72 u72 => ?_)
              try simp only [zuI_1, zuI_2, zuJ_1, zuJ_2, zuJ_3, zuP_1, zuP_2, zuP_3, zuC_1, zuC_2, reduceIte, Nat.reduceEqDiff, false_and, and_false, true_and, and_true, and_self, or_true, true_or, or_false, false_or] at e72
              refine zs_iast (r := 2084) (pc := 73) C dX9_take_73 a_84 (by decide) (by omega) rfl (r_2084 _) (by omega) ?_
              refine zs_aload_n (pc := 74) C dX9_take_74 rfl ?_
              refine zs_getf (pc := 75) C dX9_take_75 w_X9_100 f_10_55 (by decide) ?_
              refine zs_iload_n (pc := 78) C dX9_take_78 rfl ?_
              refine zs_aload_n (pc := 79) C dX9_take_79 rfl ?_
              refine zs_iload_n (pc := 80) C dX9_take_80 rfl ?_
              refine zs_bipush (pc := 81) C dX9_take_81 (by decide) (by decide) ?_
              first | refine zs_iadd (pc := 83) C dX9_take_83 (by omega) ?_ | refine zs_iaddF (pc := 83) C dX9_take_83 (fun z83 hz831 hz832 => ?_)
              refine zs_iload_n (pc := 84) C dX9_take_84 rfl ?_
              first | refine zs_iadd (pc := 85) C dX9_take_85 (by omega) ?_ | refine zs_iaddF (pc := 85) C dX9_take_85 (fun z85 hz851 hz852 => ?_)
              refine zs_iald (r := 2106) (pc := 86) C dX9_take_86 a_106 (by decide) (by omega) rfl (rg6_o (by omega)) (fun v86 e86 l86 u86 => ?_)
              try simp only [zuI_1, zuI_2, zuJ_1, zuJ_2, zuJ_3, zuP_1, zuP_2, zuP_3, zuC_1, zuC_2, reduceIte, Nat.reduceEqDiff, false_and, and_false, true_and, and_true, and_self, or_true, true_or, or_false, false_or] at e86
              refine zs_iast (r := 2085) (pc := 87) C dX9_take_87 a_85 (by decide) (by omega) rfl (r_2085 _) (by omega) ?_
              refine zs_aload_n (pc := 88) C dX9_take_88 rfl ?_
              refine zs_getf (pc := 89) C dX9_take_89 w_X9_103 f_10_56 (by decide) ?_
              refine zs_iload_n (pc := 92) C dX9_take_92 rfl ?_
              refine zs_aload_n (pc := 93) C dX9_take_93 rfl ?_
              refine zs_iload_n (pc := 94) C dX9_take_94 rfl ?_
              refine zs_bipush (pc := 95) C dX9_take_95 (by decide) (by decide) ?_
              first | refine zs_iadd (pc := 97) C dX9_take_97 (by omega) ?_ | refine zs_iaddF (pc := 97) C dX9_take_97 (fun z97 hz971 hz972 => ?_)
              refine zs_iload_n (pc := 98) C dX9_take_98 rfl ?_
              first | refine zs_iadd (pc := 99) C dX9_take_99 (by omega) ?_ | refine zs_iaddF (pc := 99) C dX9_take_99 (fun z99 hz991 hz992 => ?_)
              refine zs_iald (r := 2106) (pc := 100) C dX9_take_100 a_106 (by decide) (by omega) rfl (rg6_o (by omega)) (fun v100 e100 l100 u100 => ?_)
              try simp only [zuI_1, zuI_2, zuJ_1, zuJ_2, zuJ_3, zuP_1, zuP_2, zuP_3, zuC_1, zuC_2, reduceIte, Nat.reduceEqDiff, false_and, and_false, true_and, and_true, and_self, or_true, true_or, or_false, false_or] at e100
              refine zs_iast (r := 2086) (pc := 101) C dX9_take_101 a_86 (by decide) (by omega) rfl (r_2086 _) (by omega) ?_
              first | refine zs_iinc (pc := 102) C dX9_take_102 rfl (by decide) (by omega) ?_ | refine zs_iincF (pc := 102) C dX9_take_102 rfl (by decide) (fun z102 hz1021 hz1022 => ?_)
              dsimp only [zset, zclr, znone]
              refine zs_goto (tgt := 41) (pc := 105) C dX9_take_105 (by decide) ?_
              exact zs_wk (ih41 _ _ (by first | omega | (simp only [zuI_1, zuI_2, zuJ_1, zuJ_2, zuJ_3, zuP_1, zuP_2, zuP_3, zuC_1, zuC_2, reduceIte, Nat.reduceEqDiff, false_and, and_false, true_and, and_true, and_self, or_true, true_or, or_false, false_or]; omega)) (by repeat (first | exact zsm_rf | assumption | refine zsm_C (by decide) ?_ | refine zsm_I (by decide) ?_ | refine zsm_J ?_ | refine zsm_c (by assumption) (by decide) ?_)) (by first | omega | (simp only [zuI_1, zuI_2, zuJ_1, zuJ_2, zuJ_3, zuP_1, zuP_2, zuP_3, zuC_1, zuC_2, reduceIte, Nat.reduceEqDiff, false_and, and_false, true_and, and_true, and_self, or_true, true_or, or_false, false_or]; omega))) (zwk_s rfl (zwk_s rfl (zwk_s rfl (zwk_s rfl zwk_0))))
        exact zs_wk (L41 _ _ _ (by first | omega | (simp only [zuI_1, zuI_2, zuJ_1, zuJ_2, zuJ_3, zuP_1, zuP_2, zuP_3, zuC_1, zuC_2, reduceIte, Nat.reduceEqDiff, false_and, and_false, true_and, and_true, and_self, or_true, true_or, or_false, false_or]; omega)) (by repeat (first | exact zsm_rf | assumption | refine zsm_C (by decide) ?_ | refine zsm_I (by decide) ?_ | refine zsm_J ?_ | refine zsm_c (by assumption) (by decide) ?_)) (Nat.lt_succ_self _)) (zwk_s rfl (zwk_s rfl (zwk_s rfl (zwk_s rfl zwk_0))))
      · skip
        refine zs_aload_n (pc := 8) C dX9_take_8 rfl ?_
        refine zs_getf (pc := 9) C dX9_take_9 w_X9_88 f_10_51 (by decide) ?_
        refine zs_iload_n (pc := 12) C dX9_take_12 rfl ?_
        refine zs_aload_n (pc := 13) C dX9_take_13 rfl ?_
        refine zs_iload_n (pc := 14) C dX9_take_14 rfl ?_
        refine zs_iload_n (pc := 15) C dX9_take_15 rfl ?_
        first | refine zs_iadd (pc := 16) C dX9_take_16 (by omega) ?_ | refine zs_iaddF (pc := 16) C dX9_take_16 (fun z16 hz161 hz162 => ?_)
        refine zs_iald (r := 2106) (pc := 17) C dX9_take_17 a_106 (by decide) (by omega) rfl (rg6_o (by omega)) (fun v17 e17 l17 u17 => ?_)
        refine zs_iast (r := 2081) (pc := 18) C dX9_take_18 a_81 (by decide) (by omega) rfl (r_2081 _) (by omega) ?_
        refine zs_aload_n (pc := 19) C dX9_take_19 rfl ?_
        refine zs_getf (pc := 20) C dX9_take_20 w_X9_91 f_10_52 (by decide) ?_
        refine zs_iload_n (pc := 23) C dX9_take_23 rfl ?_
        refine zs_aload_n (pc := 24) C dX9_take_24 rfl ?_
        refine zs_iload_n (pc := 25) C dX9_take_25 rfl ?_
        refine zs_bipush (pc := 26) C dX9_take_26 (by decide) (by decide) ?_
        first | refine zs_iadd (pc := 28) C dX9_take_28 (by omega) ?_ | refine zs_iaddF (pc := 28) C dX9_take_28 (fun z28 hz281 hz282 => ?_)
        refine zs_iload_n (pc := 29) C dX9_take_29 rfl ?_
        first | refine zs_iadd (pc := 30) C dX9_take_30 (by omega) ?_ | refine zs_iaddF (pc := 30) C dX9_take_30 (fun z30 hz301 hz302 => ?_)
        refine zs_iald (r := 2106) (pc := 31) C dX9_take_31 a_106 (by decide) (by omega) rfl (rg6_o (by omega)) (fun v31 e31 l31 u31 => ?_)
        try simp only [zuI_1, zuI_2, zuJ_1, zuJ_2, zuJ_3, zuP_1, zuP_2, zuP_3, zuC_1, zuC_2, reduceIte, Nat.reduceEqDiff, false_and, and_false, true_and, and_true, and_self, or_true, true_or, or_false, false_or] at e31
        refine zs_iast (r := 2082) (pc := 32) C dX9_take_32 a_82 (by decide) (by omega) rfl (r_2082 _) (by omega) ?_
        first | refine zs_iinc (pc := 33) C dX9_take_33 rfl (by decide) (by omega) ?_ | refine zs_iincF (pc := 33) C dX9_take_33 rfl (by decide) (fun z33 hz331 hz332 => ?_)
        dsimp only [zset, zclr, znone]
        refine zs_goto (tgt := 2) (pc := 36) C dX9_take_36 (by decide) ?_
        exact zs_wk (ih2 _ _ (by first | omega | (simp only [zuI_1, zuI_2, zuJ_1, zuJ_2, zuJ_3, zuP_1, zuP_2, zuP_3, zuC_1, zuC_2, reduceIte, Nat.reduceEqDiff, false_and, and_false, true_and, and_true, and_self, or_true, true_or, or_false, false_or]; omega)) (by repeat (first | exact zsm_rf | assumption | refine zsm_C (by decide) ?_ | refine zsm_I (by decide) ?_ | refine zsm_J ?_ | refine zsm_c (by assumption) (by decide) ?_)) (by first | omega | (simp only [zuI_1, zuI_2, zuJ_1, zuJ_2, zuJ_3, zuP_1, zuP_2, zuP_3, zuC_1, zuC_2, reduceIte, Nat.reduceEqDiff, false_and, and_false, true_and, and_true, and_self, or_true, true_or, or_false, false_or]; omega))) (zwk_s rfl (zwk_s rfl (zwk_s rfl (zwk_s rfl zwk_0))))
  exact zs_wk (L2 _ _ _ (by first | omega | (simp only [zuI_1, zuI_2, zuJ_1, zuJ_2, zuJ_3, zuP_1, zuP_2, zuP_3, zuC_1, zuC_2, reduceIte, Nat.reduceEqDiff, false_and, and_false, true_and, and_true, and_self, or_true, true_or, or_false, false_or]; omega)) (by repeat (first | exact zsm_rf | assumption | refine zsm_C (by decide) ?_ | refine zsm_I (by decide) ?_ | refine zsm_J ?_ | refine zsm_c (by assumption) (by decide) ?_)) (Nat.lt_succ_self _)) (zwk_s rfl (zwk_s rfl (zwk_s rfl (zwk_s rfl zwk_0))))

set_option maxHeartbeats 4000000 in
set_option maxRecDepth 100000 in
theorem c_X9_remember {l : Launch} {Γ : zΓ} {G : zH} {w : Nat}  (hX : zXs Γ)  : zMet l Γ yX9_remember cX9_remember 2 none 1 [zr 10 w] G (zpv (fun G' => zsm [2105, 1084] G G' ∧ True)) := by
  refine zMet_of RX9 hX (by decide) rfl (Nat.le_of_ble_eq_true rfl) ?_
  intro p e s m args below meth c C hr hlk
  show Z p l e (zrm 1) s m args below meth c Γ 2 0 0 (MQ below (zQc Γ (zpv (fun G' => zsm [2105, 1084] G G' ∧ True))) args s 0 0 (zA Γ)) 0 [some (zr 10 w), none] [] G
  refine zs_aload_n (pc := 0) C dX9_remember_0 rfl ?_
  refine zs_geti (r := 1084) (pc := 1) C dX9_remember_1 w_X9_382 f_10_84 rfl (r_1084 0) (fun v1 e1 l1 u1 => ?_)
  refine zs_bipush (pc := 4) C dX9_remember_4 (by decide) (by decide) ?_
  refine zs_icmp_ne (tgt := 49) (pc := 6) C dX9_remember_6 (by decide) (fun h6 => ?_) (fun h6 => ?_)
  · skip
    refine zs_aload_n (pc := 49) C dX9_remember_49 rfl ?_
    refine zs_aload_n (pc := 50) C dX9_remember_50 rfl ?_
    refine zs_getf (pc := 51) C dX9_remember_51 w_X9_163 f_10_85 (by decide) ?_
    refine zs_bipush (pc := 54) C dX9_remember_54 (by decide) (by decide) ?_
    refine zs_aload_n (pc := 56) C dX9_remember_56 rfl ?_
    refine zs_geti (r := 1084) (pc := 57) C dX9_remember_57 w_X9_382 f_10_84 rfl (r_1084 0) (fun v57 e57 l57 u57 => ?_)
    first | refine zs_imul (pc := 60) C dX9_remember_60 (by omega) ?_ | refine zs_imulF (pc := 60) C dX9_remember_60 (fun z60 hz601 hz602 => ?_)
    refine zVv2 (pc := 61) C dX9_remember_61 v_X9_547 (c_X9_put5 hX (by omega)) (by decide) (by decide) ⟨Nat.zero_le _, Nat.zero_le _⟩ (Nat.le_of_ble_eq_true rfl) (fun G61 hp61 => ?_)
    obtain ⟨hz61, hq61⟩ := hp61
    have t1084 := zsm_at hz61 1084 w 0 (by decide)
    try simp only [zuI_1, zuI_2, zuJ_1, zuJ_2, zuJ_3, zuP_1, zuP_2, zuP_3, zuC_1, zuC_2, reduceIte, Nat.reduceEqDiff, false_and, and_false, true_and, and_true, and_self, or_true, true_or, or_false, false_or] at t1084
    refine zs_aload_n (pc := 64) C dX9_remember_64 rfl ?_
    refine zs_dupa (pc := 65) C dX9_remember_65 ?_
    refine zs_geti (r := 1084) (pc := 66) C dX9_remember_66 w_X9_382 f_10_84 rfl (r_1084 0) (fun v66 e66 l66 u66 => ?_)
    refine zs_iconst (pc := 69) C dX9_remember_69 (by decide) ?_
    first | refine zs_iadd (pc := 70) C dX9_remember_70 (by omega) ?_ | refine zs_iaddF (pc := 70) C dX9_remember_70 (fun z70 hz701 hz702 => ?_)
    refine zs_puti (r := 1084) (pc := 71) C dX9_remember_71 w_X9_382 f_10_84 rfl (r_1084 0) (by omega) ?_
    exact zs_vret (pc := 74) C hr hlk dX9_remember_74 ⟨by repeat (first | exact zsm_rf | assumption | refine zsm_C (by decide) ?_ | refine zsm_I (by decide) ?_ | refine zsm_J ?_ | refine zsm_c (by assumption) (by decide) ?_), trivial⟩
  · skip
    refine zs_iconst (pc := 9) C dX9_remember_9 (by decide) ?_
    refine zs_istore_n (pc := 10) C dX9_remember_10 (by decide) ?_
    dsimp only [zset, zclr, znone]
    have L11 : ∀ (nn : Nat) (x1 : Int) (G1 : zH), (0 ≤ x1 ∧ x1 ≤ 2413) → (zsm [2105] G G1) → (2413 - x1).toNat < nn → Z p l e (zrm 1) s m args below meth c Γ 2 0 0 (MQ below (zQc Γ (zpv (fun G' => zsm [2105, 1084] G G' ∧ True))) args s 0 0 (zA Γ)) 11 [some (zr 10 w), some (zi x1)] [] G1 := by
      intro nn
      induction nn with
      | zero => intro x1 G1 h11_0 h11_1 hm; exact absurd hm (Nat.not_lt_zero _)
      | succ nn ih11 =>
        intro x1 G1 h11_0 h11_1 hm11
        have t84 := zsm_at h11_1 1084 w 0 (by decide)
        refine zs_iload_n (pc := 11) C dX9_remember_11 rfl ?_
        refine zs_sipush (pc := 12) C dX9_remember_12 (by decide) (by decide) ?_
        refine zs_icmp_ge (tgt := 39) (pc := 15) C dX9_remember_15 (by decide) (fun h15 => ?_) (fun h15 => ?_)
        · skip
          refine zs_aload_n (pc := 39) C dX9_remember_39 rfl ?_
          refine zs_dupa (pc := 40) C dX9_remember_40 ?_
          refine zs_geti (r := 1084) (pc := 41) C dX9_remember_41 w_X9_382 f_10_84 rfl (r_1084 0) (fun v41 e41 l41 u41 => ?_)
          refine zs_iconst (pc := 44) C dX9_remember_44 (by decide) ?_
          first | refine zs_isub (pc := 45) C dX9_remember_45 (by omega) ?_ | refine zs_isubF (pc := 45) C dX9_remember_45 (fun z45 hz451 hz452 => ?_)
          refine zs_puti (r := 1084) (pc := 46) C dX9_remember_46 w_X9_382 f_10_84 rfl (r_1084 0) (by omega) ?_
          refine zs_aload_n (pc := 49) C dX9_remember_49 rfl ?_
          refine zs_aload_n (pc := 50) C dX9_remember_50 rfl ?_
          refine zs_getf (pc := 51) C dX9_remember_51 w_X9_163 f_10_85 (by decide) ?_
          refine zs_bipush (pc := 54) C dX9_remember_54 (by decide) (by decide) ?_
          refine zs_aload_n (pc := 56) C dX9_remember_56 rfl ?_
          refine zs_geti (r := 1084) (pc := 57) C dX9_remember_57 w_X9_382 f_10_84 rfl (r_1084 0) (fun v57 e57 l57 u57 => ?_)
          try simp only [zuI_1, zuI_2, zuJ_1, zuJ_2, zuJ_3, zuP_1, zuP_2, zuP_3, zuC_1, zuC_2, reduceIte, Nat.reduceEqDiff, false_and, and_false, true_and, and_true, and_self, or_true, true_or, or_false, false_or] at e57
          first | refine zs_imul (pc := 60) C dX9_remember_60 (by omega) ?_ | refine zs_imulF (pc := 60) C dX9_remember_60 (fun z60 hz601 hz602 => ?_)
          refine zVv2 (pc := 61) C dX9_remember_61 v_X9_547 (c_X9_put5 hX (by first | omega | (simp only [zuI_1, zuI_2, zuJ_1, zuJ_2, zuJ_3, zuP_1, zuP_2, zuP_3, zuC_1, zuC_2, reduceIte, Nat.reduceEqDiff, false_and, and_false, true_and, and_true, and_self, or_true, true_or, or_false, false_or]; omega))) (by decide) (by decide) ⟨Nat.zero_le _, Nat.zero_le _⟩ (Nat.le_of_ble_eq_true rfl) (fun G61 hp61 => ?_)
          obtain ⟨hz61, hq61⟩ := hp61
          try simp only [zuI_1, zuI_2, zuJ_1, zuJ_2, zuJ_3, zuP_1, zuP_2, zuP_3, zuC_1, zuC_2, reduceIte, Nat.reduceEqDiff, false_and, and_false, true_and, and_true, and_self, or_true, true_or, or_false, false_or] at hq61
          have t1084 := zsm_at hz61 1084 w 0 (by decide)
          try simp only [zuI_1, zuI_2, zuJ_1, zuJ_2, zuJ_3, zuP_1, zuP_2, zuP_3, zuC_1, zuC_2, reduceIte, Nat.reduceEqDiff, false_and, and_false, true_and, and_true, and_self, or_true, true_or, or_false, false_or] at t1084
          refine zs_aload_n (pc := 64) C dX9_remember_64 rfl ?_
          refine zs_dupa (pc := 65) C dX9_remember_65 ?_
          refine zs_geti (r := 1084) (pc := 66) C dX9_remember_66 w_X9_382 f_10_84 rfl (r_1084 0) (fun v66 e66 l66 u66 => ?_)
          refine zs_iconst (pc := 69) C dX9_remember_69 (by decide) ?_
          first | refine zs_iadd (pc := 70) C dX9_remember_70 (by omega) ?_ | refine zs_iaddF (pc := 70) C dX9_remember_70 (fun z70 hz701 hz702 => ?_)
          refine zs_puti (r := 1084) (pc := 71) C dX9_remember_71 w_X9_382 f_10_84 rfl (r_1084 0) (by omega) ?_
          exact zs_vret (pc := 74) C hr hlk dX9_remember_74 ⟨by repeat (first | exact zsm_rf | assumption | refine zsm_C (by decide) ?_ | refine zsm_I (by decide) ?_ | refine zsm_J ?_ | refine zsm_c (by assumption) (by decide) ?_), trivial⟩
        · skip
          refine zs_aload_n (pc := 18) C dX9_remember_18 rfl ?_
          refine zs_getf (pc := 19) C dX9_remember_19 w_X9_163 f_10_85 (by decide) ?_
          refine zs_iload_n (pc := 22) C dX9_remember_22 rfl ?_
          refine zs_aload_n (pc := 23) C dX9_remember_23 rfl ?_
          refine zs_getf (pc := 24) C dX9_remember_24 w_X9_163 f_10_85 (by decide) ?_
          refine zs_iload_n (pc := 27) C dX9_remember_27 rfl ?_
          refine zs_bipush (pc := 28) C dX9_remember_28 (by decide) (by decide) ?_
          first | refine zs_iadd (pc := 30) C dX9_remember_30 (by omega) ?_ | refine zs_iaddF (pc := 30) C dX9_remember_30 (fun z30 hz301 hz302 => ?_)
          refine zs_iald (r := 2105) (pc := 31) C dX9_remember_31 a_105 (by decide) (by omega) rfl (show zrg 2105 (x1 + 127).toNat = ((zrg 2105 (x1 + 127).toNat).1, (zrg 2105 (x1 + 127).toNat).2) from rfl) (fun v31 e31 l31 u31 => ?_)
          rw [rg5_sh (by omega)] at l31 u31
          refine zs_iast (r := 2105) (pc := 32) C dX9_remember_32 a_105 (by decide) (by omega) rfl (show zrg 2105 (x1).toNat = ((zrg 2105 (x1).toNat).1, (zrg 2105 (x1).toNat).2) from rfl) (by omega) ?_
          first | refine zs_iinc (pc := 33) C dX9_remember_33 rfl (by decide) (by omega) ?_ | refine zs_iincF (pc := 33) C dX9_remember_33 rfl (by decide) (fun z33 hz331 hz332 => ?_)
          dsimp only [zset, zclr, znone]
          refine zs_goto (tgt := 11) (pc := 36) C dX9_remember_36 (by decide) ?_
          exact zs_wk (ih11 _ _ (by first | omega | (simp only [zuI_1, zuI_2, zuJ_1, zuJ_2, zuJ_3, zuP_1, zuP_2, zuP_3, zuC_1, zuC_2, reduceIte, Nat.reduceEqDiff, false_and, and_false, true_and, and_true, and_self, or_true, true_or, or_false, false_or]; omega)) (by repeat (first | exact zsm_rf | assumption | refine zsm_C (by decide) ?_ | refine zsm_I (by decide) ?_ | refine zsm_J ?_ | refine zsm_c (by assumption) (by decide) ?_)) (by first | omega | (simp only [zuI_1, zuI_2, zuJ_1, zuJ_2, zuJ_3, zuP_1, zuP_2, zuP_3, zuC_1, zuC_2, reduceIte, Nat.reduceEqDiff, false_and, and_false, true_and, and_true, and_self, or_true, true_or, or_false, false_or]; omega))) (zwk_s rfl (zwk_s rfl zwk_0))
    exact zs_wk (L11 _ _ _ (by first | omega | (simp only [zuI_1, zuI_2, zuJ_1, zuJ_2, zuJ_3, zuP_1, zuP_2, zuP_3, zuC_1, zuC_2, reduceIte, Nat.reduceEqDiff, false_and, and_false, true_and, and_true, and_self, or_true, true_or, or_false, false_or]; omega)) (by repeat (first | exact zsm_rf | assumption | refine zsm_C (by decide) ?_ | refine zsm_I (by decide) ?_ | refine zsm_J ?_ | refine zsm_c (by assumption) (by decide) ?_)) (Nat.lt_succ_self _)) (zwk_s rfl (zwk_s rfl zwk_0))

set_option maxHeartbeats 4000000 in
set_option maxRecDepth 100000 in
theorem c_X9_undo {l : Launch} {Γ : zΓ} {G : zH} {w : Nat}  (hX : zXs Γ)  : zMet l Γ yX9_undo cX9_undo 1 (some .int) 1 [zr 10 w] G (zpi (fun x G' => zsm [2081, 2082, 2083, 2084, 2085, 2086, 2087, 2088, 2089, 2090, 2094, 1002, 1084] G G' ∧ True)) := by
  refine zMet_of RX9 hX (by decide) rfl (Nat.le_of_ble_eq_true rfl) ?_
  intro p e s m args below meth c C hr hlk
  show Z p l e (zrm 1) s m args below meth c Γ 1 0 0 (MQ below (zQc Γ (zpi (fun x G' => zsm [2081, 2082, 2083, 2084, 2085, 2086, 2087, 2088, 2089, 2090, 2094, 1002, 1084] G G' ∧ True))) args s 0 0 (zA Γ)) 0 [some (zr 10 w)] [] G
  refine zs_aload_n (pc := 0) C dX9_undo_0 rfl ?_
  refine zs_iconst (pc := 1) C dX9_undo_1 (by decide) ?_
  refine zs_puti (r := 1002) (pc := 2) C dX9_undo_2 w_X9_178 f_10_2 rfl (r_1002 0) (by omega) ?_
  refine zs_aload_n (pc := 5) C dX9_undo_5 rfl ?_
  refine zs_geti (r := 1084) (pc := 6) C dX9_undo_6 w_X9_382 f_10_84 rfl (r_1084 0) (fun v6 e6 l6 u6 => ?_)
  try simp only [zuI_1, zuI_2, zuJ_1, zuJ_2, zuJ_3, zuP_1, zuP_2, zuP_3, zuC_1, zuC_2, reduceIte, Nat.reduceEqDiff, false_and, and_false, true_and, and_true, and_self, or_true, true_or, or_false, false_or] at e6
  refine zs_if_ne (tgt := 14) (pc := 9) C dX9_undo_9 (by decide) (fun h9 => ?_) (fun h9 => ?_)
  · skip
    refine zs_aload_n (pc := 14) C dX9_undo_14 rfl ?_
    refine zs_dupa (pc := 15) C dX9_undo_15 ?_
    refine zs_geti (r := 1084) (pc := 16) C dX9_undo_16 w_X9_382 f_10_84 rfl (r_1084 0) (fun v16 e16 l16 u16 => ?_)
    try simp only [zuI_1, zuI_2, zuJ_1, zuJ_2, zuJ_3, zuP_1, zuP_2, zuP_3, zuC_1, zuC_2, reduceIte, Nat.reduceEqDiff, false_and, and_false, true_and, and_true, and_self, or_true, true_or, or_false, false_or] at e16
    refine zs_iconst (pc := 19) C dX9_undo_19 (by decide) ?_
    first | refine zs_isub (pc := 20) C dX9_undo_20 (by omega) ?_ | refine zs_isubF (pc := 20) C dX9_undo_20 (fun z20 hz201 hz202 => ?_)
    refine zs_puti (r := 1084) (pc := 21) C dX9_undo_21 w_X9_382 f_10_84 rfl (r_1084 0) (by omega) ?_
    refine zs_aload_n (pc := 24) C dX9_undo_24 rfl ?_
    refine zs_aload_n (pc := 25) C dX9_undo_25 rfl ?_
    refine zs_getf (pc := 26) C dX9_undo_26 w_X9_163 f_10_85 (by decide) ?_
    refine zs_bipush (pc := 29) C dX9_undo_29 (by decide) (by decide) ?_
    refine zs_aload_n (pc := 31) C dX9_undo_31 rfl ?_
    refine zs_geti (r := 1084) (pc := 32) C dX9_undo_32 w_X9_382 f_10_84 rfl (r_1084 0) (fun v32 e32 l32 u32 => ?_)
    try simp only [zuI_1, zuI_2, zuJ_1, zuJ_2, zuJ_3, zuP_1, zuP_2, zuP_3, zuC_1, zuC_2, reduceIte, Nat.reduceEqDiff, false_and, and_false, true_and, and_true, and_self, or_true, true_or, or_false, false_or] at e32
    first | refine zs_imul (pc := 35) C dX9_undo_35 (by omega) ?_ | refine zs_imulF (pc := 35) C dX9_undo_35 (fun z35 hz351 hz352 => ?_)
    refine zVv2 (pc := 36) C dX9_undo_36 v_X9_550 (c_X9_take5 hX (by first | omega | (simp only [zuI_1, zuI_2, zuJ_1, zuJ_2, zuJ_3, zuP_1, zuP_2, zuP_3, zuC_1, zuC_2, reduceIte, Nat.reduceEqDiff, false_and, and_false, true_and, and_true, and_self, or_true, true_or, or_false, false_or]; omega))) (by decide) (by decide) ⟨Nat.zero_le _, Nat.zero_le _⟩ (Nat.le_of_ble_eq_true rfl) (fun G36 hp36 => ?_)
    obtain ⟨hz36, hq36⟩ := hp36
    try simp only [zuI_1, zuI_2, zuJ_1, zuJ_2, zuJ_3, zuP_1, zuP_2, zuP_3, zuC_1, zuC_2, reduceIte, Nat.reduceEqDiff, false_and, and_false, true_and, and_true, and_self, or_true, true_or, or_false, false_or] at hq36
    refine zs_aload_n (pc := 39) C dX9_undo_39 rfl ?_
    refine zs_geti (r := 1084) (pc := 40) C dX9_undo_40 w_X9_382 f_10_84 rfl (r_1084 0) (fun v40 e40 l40 u40 => ?_)
    exact zs_iret (pc := 43) C hr hlk dX9_undo_43 ⟨by repeat (first | exact zsm_rf | assumption | refine zsm_C (by decide) ?_ | refine zsm_I (by decide) ?_ | refine zsm_J ?_ | refine zsm_c (by assumption) (by decide) ?_), trivial⟩
  · skip
    refine zs_iconst (pc := 12) C dX9_undo_12 (by decide) ?_
    exact zs_iret (pc := 13) C hr hlk dX9_undo_13 ⟨by repeat (first | exact zsm_rf | assumption | refine zsm_C (by decide) ?_ | refine zsm_I (by decide) ?_ | refine zsm_J ?_ | refine zsm_c (by assumption) (by decide) ?_), trivial⟩

set_option maxHeartbeats 4000000 in
set_option maxRecDepth 100000 in
theorem c_X9_keep {l : Launch} {Γ : zΓ} {G : zH} {w : Nat}  (hX : zXs Γ)  : zMet l Γ yX9_keep cX9_keep 2 (some .int) 1 [zr 10 w] G (zpi (fun x G' => zsm [2106, 2107, 1086, 1087, 1002] G G' ∧ True)) := by
  refine zMet_of RX9 hX (by decide) rfl (Nat.le_of_ble_eq_true rfl) ?_
  intro p e s m args below meth c C hr hlk
  show Z p l e (zrm 1) s m args below meth c Γ 2 0 0 (MQ below (zQc Γ (zpi (fun x G' => zsm [2106, 2107, 1086, 1087, 1002] G G' ∧ True))) args s 0 0 (zA Γ)) 0 [some (zr 10 w), none] [] G
  refine zs_aload_n (pc := 0) C dX9_keep_0 rfl ?_
  refine zs_iconst (pc := 1) C dX9_keep_1 (by decide) ?_
  refine zs_puti (r := 1002) (pc := 2) C dX9_keep_2 w_X9_178 f_10_2 rfl (r_1002 0) (by omega) ?_
  refine zs_aload_n (pc := 5) C dX9_keep_5 rfl ?_
  refine zs_iconst (pc := 6) C dX9_keep_6 (by decide) ?_
  refine zs_putz (r := 1086) (pc := 7) C dX9_keep_7 w_X9_385 f_10_86 rfl (r_1086 0) (by omega) (by omega) ?_
  refine zs_aload_n (pc := 10) C dX9_keep_10 rfl ?_
  refine zs_aload_n (pc := 11) C dX9_keep_11 rfl ?_
  refine zs_getj (r := 1061) (pc := 12) C dX9_keep_12 w_X9_375 f_10_61 rfl (fun v12 e12 l12 u12 => ?_)
  try simp only [zuI_1, zuI_2, zuJ_1, zuJ_2, zuJ_3, zuP_1, zuP_2, zuP_3, zuC_1, zuC_2, reduceIte, Nat.reduceEqDiff, false_and, and_false, true_and, and_true, and_self, or_true, true_or, or_false, false_or] at e12
  refine zs_putj (r := 1088) (pc := 15) C dX9_keep_15 w_X9_553 f_10_88 rfl ?_
  refine zs_aload_n (pc := 18) C dX9_keep_18 rfl ?_
  refine zs_aload_n (pc := 19) C dX9_keep_19 rfl ?_
  refine zs_geti (r := 1083) (pc := 20) C dX9_keep_20 w_X9_379 f_10_83 rfl (r_1083 0) (fun v20 e20 l20 u20 => ?_)
  try simp only [zuI_1, zuI_2, zuJ_1, zuJ_2, zuJ_3, zuP_1, zuP_2, zuP_3, zuC_1, zuC_2, reduceIte, Nat.reduceEqDiff, false_and, and_false, true_and, and_true, and_self, or_true, true_or, or_false, false_or] at e20
  refine zs_puti (r := 1087) (pc := 23) C dX9_keep_23 w_X9_556 f_10_87 rfl (r_1087 0) (by omega) ?_
  refine zs_aload_n (pc := 26) C dX9_keep_26 rfl ?_
  refine zs_aload_n (pc := 27) C dX9_keep_27 rfl ?_
  refine zs_getf (pc := 28) C dX9_keep_28 w_X9_166 f_10_89 (by decide) ?_
  refine zs_iconst (pc := 31) C dX9_keep_31 (by decide) ?_
  refine zVv2 (pc := 32) C dX9_keep_32 v_X9_547 (c_X9_put6 hX (by first | omega | (simp only [zuI_1, zuI_2, zuJ_1, zuJ_2, zuJ_3, zuP_1, zuP_2, zuP_3, zuC_1, zuC_2, reduceIte, Nat.reduceEqDiff, false_and, and_false, true_and, and_true, and_self, or_true, true_or, or_false, false_or]; omega))) (by decide) (by decide) ⟨Nat.zero_le _, Nat.zero_le _⟩ (Nat.le_of_ble_eq_true rfl) (fun G32 hp32 => ?_)
  obtain ⟨hz32, hq32⟩ := hp32
  try simp only [zuI_1, zuI_2, zuJ_1, zuJ_2, zuJ_3, zuP_1, zuP_2, zuP_3, zuC_1, zuC_2, reduceIte, Nat.reduceEqDiff, false_and, and_false, true_and, and_true, and_self, or_true, true_or, or_false, false_or] at hq32
  refine zs_iconst (pc := 35) C dX9_keep_35 (by decide) ?_
  refine zs_istore_n (pc := 36) C dX9_keep_36 (by decide) ?_
  dsimp only [zset, zclr, znone]
  have L37 : ∀ (nn : Nat) (x1 : Int) (G1 : zH), (0 ≤ x1 ∧ x1 ≤ 60) → (zsm [2106, 2107, 1086, 1087, 1002] G G1) → (60 - x1).toNat < nn → Z p l e (zrm 1) s m args below meth c Γ 2 0 0 (MQ below (zQc Γ (zpi (fun x G' => zsm [2106, 2107, 1086, 1087, 1002] G G' ∧ True))) args s 0 0 (zA Γ)) 37 [some (zr 10 w), some (zi x1)] [] G1 := by
    intro nn
    induction nn with
    | zero => intro x1 G1 h37_0 h37_1 hm; exact absurd hm (Nat.not_lt_zero _)
    | succ nn ih37 =>
      intro x1 G1 h37_0 h37_1 hm37
      refine zs_iload_n (pc := 37) C dX9_keep_37 rfl ?_
      refine zs_bipush (pc := 38) C dX9_keep_38 (by decide) (by decide) ?_
      refine zs_icmp_ge (tgt := 187) (pc := 40) C dX9_keep_40 (by decide) (fun h40 => ?_) (fun h40 => ?_)
      · skip
        refine zs_aload_n (pc := 187) C dX9_keep_187 rfl ?_
        refine zs_getf (pc := 188) C dX9_keep_188 w_X9_115 f_10_60 (by decide) ?_
        refine zs_iconst (pc := 191) C dX9_keep_191 (by decide) ?_
        refine zs_iald (r := 2090) (pc := 192) C dX9_keep_192 a_90 (by decide) (by omega) rfl (r_2090 _) (fun v192 e192 l192 u192 => ?_)
        exact zs_iret (pc := 193) C hr hlk dX9_keep_193 ⟨by repeat (first | exact zsm_rf | assumption | refine zsm_C (by decide) ?_ | refine zsm_I (by decide) ?_ | refine zsm_J ?_ | refine zsm_c (by assumption) (by decide) ?_), trivial⟩
      · skip
        refine zs_aload_n (pc := 43) C dX9_keep_43 rfl ?_
        refine zs_getf (pc := 44) C dX9_keep_44 w_X9_169 f_10_90 (by decide) ?_
        refine zs_iload_n (pc := 47) C dX9_keep_47 rfl ?_
        refine zs_aload_n (pc := 48) C dX9_keep_48 rfl ?_
        refine zs_getf (pc := 49) C dX9_keep_49 w_X9_118 f_10_62 (by decide) ?_
        refine zs_iload_n (pc := 52) C dX9_keep_52 rfl ?_
        refine zs_iald (r := 2091) (pc := 53) C dX9_keep_53 a_91 (by decide) (by omega) rfl (r_2091 _) (fun v53 e53 l53 u53 => ?_)
        refine zs_iast (r := 2107) (pc := 54) C dX9_keep_54 a_107 (by decide) (by omega) rfl (rg7_a (by omega)) (by omega) ?_
        refine zs_aload_n (pc := 55) C dX9_keep_55 rfl ?_
        refine zs_getf (pc := 56) C dX9_keep_56 w_X9_169 f_10_90 (by decide) ?_
        refine zs_bipush (pc := 59) C dX9_keep_59 (by decide) (by decide) ?_
        refine zs_iload_n (pc := 61) C dX9_keep_61 rfl ?_
        first | refine zs_iadd (pc := 62) C dX9_keep_62 (by omega) ?_ | refine zs_iaddF (pc := 62) C dX9_keep_62 (fun z62 hz621 hz622 => ?_)
        refine zs_aload_n (pc := 63) C dX9_keep_63 rfl ?_
        refine zs_getf (pc := 64) C dX9_keep_64 w_X9_121 f_10_63 (by decide) ?_
        refine zs_iload_n (pc := 67) C dX9_keep_67 rfl ?_
        refine zs_iald (r := 2092) (pc := 68) C dX9_keep_68 a_92 (by decide) (by omega) rfl (r_2092 _) (fun v68 e68 l68 u68 => ?_)
        try simp only [zuI_1, zuI_2, zuJ_1, zuJ_2, zuJ_3, zuP_1, zuP_2, zuP_3, zuC_1, zuC_2, reduceIte, Nat.reduceEqDiff, false_and, and_false, true_and, and_true, and_self, or_true, true_or, or_false, false_or] at e68
        refine zs_iast (r := 2107) (pc := 69) C dX9_keep_69 a_107 (by decide) (by omega) rfl (rg7_b (by omega)) (by omega) ?_
        refine zs_aload_n (pc := 70) C dX9_keep_70 rfl ?_
        refine zs_getf (pc := 71) C dX9_keep_71 w_X9_169 f_10_90 (by decide) ?_
        refine zs_bipush (pc := 74) C dX9_keep_74 (by decide) (by decide) ?_
        refine zs_iload_n (pc := 76) C dX9_keep_76 rfl ?_
        first | refine zs_iadd (pc := 77) C dX9_keep_77 (by omega) ?_ | refine zs_iaddF (pc := 77) C dX9_keep_77 (fun z77 hz771 hz772 => ?_)
        refine zs_aload_n (pc := 78) C dX9_keep_78 rfl ?_
        refine zs_getf (pc := 79) C dX9_keep_79 w_X9_124 f_10_64 (by decide) ?_
        refine zs_iload_n (pc := 82) C dX9_keep_82 rfl ?_
        refine zs_iald (r := 2093) (pc := 83) C dX9_keep_83 a_93 (by decide) (by omega) rfl (r_2093 _) (fun v83 e83 l83 u83 => ?_)
        try simp only [zuI_1, zuI_2, zuJ_1, zuJ_2, zuJ_3, zuP_1, zuP_2, zuP_3, zuC_1, zuC_2, reduceIte, Nat.reduceEqDiff, false_and, and_false, true_and, and_true, and_self, or_true, true_or, or_false, false_or] at e83
        refine zs_iast (r := 2107) (pc := 84) C dX9_keep_84 a_107 (by decide) (by omega) rfl (rg7_c (by omega)) (by omega) ?_
        refine zs_aload_n (pc := 85) C dX9_keep_85 rfl ?_
        refine zs_getf (pc := 86) C dX9_keep_86 w_X9_169 f_10_90 (by decide) ?_
        refine zs_sipush (pc := 89) C dX9_keep_89 (by decide) (by decide) ?_
        refine zs_iload_n (pc := 92) C dX9_keep_92 rfl ?_
        first | refine zs_iadd (pc := 93) C dX9_keep_93 (by omega) ?_ | refine zs_iaddF (pc := 93) C dX9_keep_93 (fun z93 hz931 hz932 => ?_)
        refine zs_aload_n (pc := 94) C dX9_keep_94 rfl ?_
        refine zs_getf (pc := 95) C dX9_keep_95 w_X9_130 f_10_66 (by decide) ?_
        refine zs_iload_n (pc := 98) C dX9_keep_98 rfl ?_
        refine zs_iald (r := 2095) (pc := 99) C dX9_keep_99 a_95 (by decide) (by omega) rfl (r_2095 _) (fun v99 e99 l99 u99 => ?_)
        try simp only [zuI_1, zuI_2, zuJ_1, zuJ_2, zuJ_3, zuP_1, zuP_2, zuP_3, zuC_1, zuC_2, reduceIte, Nat.reduceEqDiff, false_and, and_false, true_and, and_true, and_self, or_true, true_or, or_false, false_or] at e99
        refine zs_iast (r := 2107) (pc := 100) C dX9_keep_100 a_107 (by decide) (by omega) rfl (rg7_c (by omega)) (by omega) ?_
        refine zs_aload_n (pc := 101) C dX9_keep_101 rfl ?_
        refine zs_getf (pc := 102) C dX9_keep_102 w_X9_169 f_10_90 (by decide) ?_
        refine zs_sipush (pc := 105) C dX9_keep_105 (by decide) (by decide) ?_
        refine zs_iload_n (pc := 108) C dX9_keep_108 rfl ?_
        first | refine zs_iadd (pc := 109) C dX9_keep_109 (by omega) ?_ | refine zs_iaddF (pc := 109) C dX9_keep_109 (fun z109 hz1091 hz1092 => ?_)
        refine zs_aload_n (pc := 110) C dX9_keep_110 rfl ?_
        refine zs_getf (pc := 111) C dX9_keep_111 w_X9_133 f_10_67 (by decide) ?_
        refine zs_iload_n (pc := 114) C dX9_keep_114 rfl ?_
        refine zs_iald (r := 2096) (pc := 115) C dX9_keep_115 a_96 (by decide) (by omega) rfl (r_2096 _) (fun v115 e115 l115 u115 => ?_)
        try simp only [zuI_1, zuI_2, zuJ_1, zuJ_2, zuJ_3, zuP_1, zuP_2, zuP_3, zuC_1, zuC_2, reduceIte, Nat.reduceEqDiff, false_and, and_false, true_and, and_true, and_self, or_true, true_or, or_false, false_or] at e115
        refine zs_iast (r := 2107) (pc := 116) C dX9_keep_116 a_107 (by decide) (by omega) rfl (rg7_c (by omega)) (by omega) ?_
        refine zs_aload_n (pc := 117) C dX9_keep_117 rfl ?_
        refine zs_getf (pc := 118) C dX9_keep_118 w_X9_169 f_10_90 (by decide) ?_
        refine zs_sipush (pc := 121) C dX9_keep_121 (by decide) (by decide) ?_
        refine zs_iload_n (pc := 124) C dX9_keep_124 rfl ?_
        first | refine zs_iadd (pc := 125) C dX9_keep_125 (by omega) ?_ | refine zs_iaddF (pc := 125) C dX9_keep_125 (fun z125 hz1251 hz1252 => ?_)
        refine zs_aload_n (pc := 126) C dX9_keep_126 rfl ?_
        refine zs_getf (pc := 127) C dX9_keep_127 w_X9_136 f_10_68 (by decide) ?_
        refine zs_iload_n (pc := 130) C dX9_keep_130 rfl ?_
        refine zs_iald (r := 2097) (pc := 131) C dX9_keep_131 a_97 (by decide) (by omega) rfl (r_2097 _) (fun v131 e131 l131 u131 => ?_)
        try simp only [zuI_1, zuI_2, zuJ_1, zuJ_2, zuJ_3, zuP_1, zuP_2, zuP_3, zuC_1, zuC_2, reduceIte, Nat.reduceEqDiff, false_and, and_false, true_and, and_true, and_self, or_true, true_or, or_false, false_or] at e131
        refine zs_iast (r := 2107) (pc := 132) C dX9_keep_132 a_107 (by decide) (by omega) rfl (rg7_c (by omega)) (by omega) ?_
        refine zs_aload_n (pc := 133) C dX9_keep_133 rfl ?_
        refine zs_getf (pc := 134) C dX9_keep_134 w_X9_169 f_10_90 (by decide) ?_
        refine zs_sipush (pc := 137) C dX9_keep_137 (by decide) (by decide) ?_
        refine zs_iload_n (pc := 140) C dX9_keep_140 rfl ?_
        first | refine zs_iadd (pc := 141) C dX9_keep_141 (by omega) ?_ | refine zs_iaddF (pc := 141) C dX9_keep_141 (fun z141 hz1411 hz1412 => ?_)
        refine zs_aload_n (pc := 142) C dX9_keep_142 rfl ?_
        refine zs_getf (pc := 143) C dX9_keep_143 w_X9_139 f_10_69 (by decide) ?_
        refine zs_iload_n (pc := 146) C dX9_keep_146 rfl ?_
        refine zs_iald (r := 2098) (pc := 147) C dX9_keep_147 a_98 (by decide) (by omega) rfl (r_2098 _) (fun v147 e147 l147 u147 => ?_)
        try simp only [zuI_1, zuI_2, zuJ_1, zuJ_2, zuJ_3, zuP_1, zuP_2, zuP_3, zuC_1, zuC_2, reduceIte, Nat.reduceEqDiff, false_and, and_false, true_and, and_true, and_self, or_true, true_or, or_false, false_or] at e147
        refine zs_iast (r := 2107) (pc := 148) C dX9_keep_148 a_107 (by decide) (by omega) rfl (rg7_c (by omega)) (by omega) ?_
        refine zs_aload_n (pc := 149) C dX9_keep_149 rfl ?_
        refine zs_getf (pc := 150) C dX9_keep_150 w_X9_169 f_10_90 (by decide) ?_
        refine zs_sipush (pc := 153) C dX9_keep_153 (by decide) (by decide) ?_
        refine zs_iload_n (pc := 156) C dX9_keep_156 rfl ?_
        first | refine zs_iadd (pc := 157) C dX9_keep_157 (by omega) ?_ | refine zs_iaddF (pc := 157) C dX9_keep_157 (fun z157 hz1571 hz1572 => ?_)
        refine zs_aload_n (pc := 158) C dX9_keep_158 rfl ?_
        refine zs_getf (pc := 159) C dX9_keep_159 w_X9_142 f_10_70 (by decide) ?_
        refine zs_iload_n (pc := 162) C dX9_keep_162 rfl ?_
        refine zs_iald (r := 2099) (pc := 163) C dX9_keep_163 a_99 (by decide) (by omega) rfl (r_2099 _) (fun v163 e163 l163 u163 => ?_)
        try simp only [zuI_1, zuI_2, zuJ_1, zuJ_2, zuJ_3, zuP_1, zuP_2, zuP_3, zuC_1, zuC_2, reduceIte, Nat.reduceEqDiff, false_and, and_false, true_and, and_true, and_self, or_true, true_or, or_false, false_or] at e163
        refine zs_iast (r := 2107) (pc := 164) C dX9_keep_164 a_107 (by decide) (by omega) rfl (rg7_c (by omega)) (by omega) ?_
        refine zs_aload_n (pc := 165) C dX9_keep_165 rfl ?_
        refine zs_getf (pc := 166) C dX9_keep_166 w_X9_169 f_10_90 (by decide) ?_
        refine zs_sipush (pc := 169) C dX9_keep_169 (by decide) (by decide) ?_
        refine zs_iload_n (pc := 172) C dX9_keep_172 rfl ?_
        first | refine zs_iadd (pc := 173) C dX9_keep_173 (by omega) ?_ | refine zs_iaddF (pc := 173) C dX9_keep_173 (fun z173 hz1731 hz1732 => ?_)
        refine zs_aload_n (pc := 174) C dX9_keep_174 rfl ?_
        refine zs_getf (pc := 175) C dX9_keep_175 w_X9_145 f_10_71 (by decide) ?_
        refine zs_iload_n (pc := 178) C dX9_keep_178 rfl ?_
        refine zs_iald (r := 2100) (pc := 179) C dX9_keep_179 a_100 (by decide) (by omega) rfl (r_2100 _) (fun v179 e179 l179 u179 => ?_)
        try simp only [zuI_1, zuI_2, zuJ_1, zuJ_2, zuJ_3, zuP_1, zuP_2, zuP_3, zuC_1, zuC_2, reduceIte, Nat.reduceEqDiff, false_and, and_false, true_and, and_true, and_self, or_true, true_or, or_false, false_or] at e179
        refine zs_iast (r := 2107) (pc := 180) C dX9_keep_180 a_107 (by decide) (by omega) rfl (rg7_c (by omega)) (by omega) ?_
        first | refine zs_iinc (pc := 181) C dX9_keep_181 rfl (by decide) (by omega) ?_ | refine zs_iincF (pc := 181) C dX9_keep_181 rfl (by decide) (fun z181 hz1811 hz1812 => ?_)
        dsimp only [zset, zclr, znone]
        refine zs_goto (tgt := 37) (pc := 184) C dX9_keep_184 (by decide) ?_
        exact zs_wk (ih37 _ _ (by first | omega | (simp only [zuI_1, zuI_2, zuJ_1, zuJ_2, zuJ_3, zuP_1, zuP_2, zuP_3, zuC_1, zuC_2, reduceIte, Nat.reduceEqDiff, false_and, and_false, true_and, and_true, and_self, or_true, true_or, or_false, false_or]; omega)) (by repeat (first | exact zsm_rf | assumption | refine zsm_C (by decide) ?_ | refine zsm_I (by decide) ?_ | refine zsm_J ?_ | refine zsm_c (by assumption) (by decide) ?_)) (by first | omega | (simp only [zuI_1, zuI_2, zuJ_1, zuJ_2, zuJ_3, zuP_1, zuP_2, zuP_3, zuC_1, zuC_2, reduceIte, Nat.reduceEqDiff, false_and, and_false, true_and, and_true, and_self, or_true, true_or, or_false, false_or]; omega))) (zwk_s rfl (zwk_s rfl zwk_0))
  exact zs_wk (L37 _ _ _ (by first | omega | (simp only [zuI_1, zuI_2, zuJ_1, zuJ_2, zuJ_3, zuP_1, zuP_2, zuP_3, zuC_1, zuC_2, reduceIte, Nat.reduceEqDiff, false_and, and_false, true_and, and_true, and_self, or_true, true_or, or_false, false_or]; omega)) (by repeat (first | exact zsm_rf | assumption | refine zsm_C (by decide) ?_ | refine zsm_I (by decide) ?_ | refine zsm_J ?_ | refine zsm_c (by assumption) (by decide) ?_)) (Nat.lt_succ_self _)) (zwk_s rfl (zwk_s rfl zwk_0))

set_option maxHeartbeats 4000000 in
set_option maxRecDepth 100000 in
theorem c_X9_back {l : Launch} {Γ : zΓ} {G : zH} {w : Nat}  (hX : zXs Γ)  : zMet l Γ yX9_back cX9_back 2 (some .int) 1 [zr 10 w] G (zpi (fun x G' => zsm [2081, 2082, 2083, 2084, 2085, 2086, 2087, 2088, 2089, 2090, 2094, 2091, 2092, 2093, 2095, 2096, 2097, 2098, 2099, 2100, 1002, 1083, 1084] G G' ∧ True)) := by
  refine zMet_of RX9 hX (by decide) rfl (Nat.le_of_ble_eq_true rfl) ?_
  intro p e s m args below meth c C hr hlk
  show Z p l e (zrm 1) s m args below meth c Γ 2 0 0 (MQ below (zQc Γ (zpi (fun x G' => zsm [2081, 2082, 2083, 2084, 2085, 2086, 2087, 2088, 2089, 2090, 2094, 2091, 2092, 2093, 2095, 2096, 2097, 2098, 2099, 2100, 1002, 1083, 1084] G G' ∧ True))) args s 0 0 (zA Γ)) 0 [some (zr 10 w), none] [] G
  refine zs_aload_n (pc := 0) C dX9_back_0 rfl ?_
  refine zs_iconst (pc := 1) C dX9_back_1 (by decide) ?_
  refine zs_puti (r := 1002) (pc := 2) C dX9_back_2 w_X9_178 f_10_2 rfl (r_1002 0) (by omega) ?_
  refine zs_aload_n (pc := 5) C dX9_back_5 rfl ?_
  refine zs_getz (r := 1086) (pc := 6) C dX9_back_6 w_X9_385 f_10_86 rfl (r_1086 0) (fun v6 e6 l6 u6 => ?_)
  try simp only [zuI_1, zuI_2, zuJ_1, zuJ_2, zuJ_3, zuP_1, zuP_2, zuP_3, zuC_1, zuC_2, reduceIte, Nat.reduceEqDiff, false_and, and_false, true_and, and_true, and_self, or_true, true_or, or_false, false_or] at e6
  refine zs_if_ne (tgt := 14) (pc := 9) C dX9_back_9 (by decide) (fun h9 => ?_) (fun h9 => ?_)
  · skip
    refine zs_aload_n (pc := 14) C dX9_back_14 rfl ?_
    refine zs_aload_n (pc := 15) C dX9_back_15 rfl ?_
    refine zs_getj (r := 1088) (pc := 16) C dX9_back_16 w_X9_553 f_10_88 rfl (fun v16 e16 l16 u16 => ?_)
    try simp only [zuI_1, zuI_2, zuJ_1, zuJ_2, zuJ_3, zuP_1, zuP_2, zuP_3, zuC_1, zuC_2, reduceIte, Nat.reduceEqDiff, false_and, and_false, true_and, and_true, and_self, or_true, true_or, or_false, false_or] at e16
    refine zs_putj (r := 1061) (pc := 19) C dX9_back_19 w_X9_375 f_10_61 rfl ?_
    refine zs_aload_n (pc := 22) C dX9_back_22 rfl ?_
    refine zs_aload_n (pc := 23) C dX9_back_23 rfl ?_
    refine zs_geti (r := 1087) (pc := 24) C dX9_back_24 w_X9_556 f_10_87 rfl (r_1087 0) (fun v24 e24 l24 u24 => ?_)
    try simp only [zuI_1, zuI_2, zuJ_1, zuJ_2, zuJ_3, zuP_1, zuP_2, zuP_3, zuC_1, zuC_2, reduceIte, Nat.reduceEqDiff, false_and, and_false, true_and, and_true, and_self, or_true, true_or, or_false, false_or] at e24
    refine zs_puti (r := 1083) (pc := 27) C dX9_back_27 w_X9_379 f_10_83 rfl (r_1083 0) (by omega) ?_
    refine zs_aload_n (pc := 30) C dX9_back_30 rfl ?_
    refine zs_aload_n (pc := 31) C dX9_back_31 rfl ?_
    refine zs_getf (pc := 32) C dX9_back_32 w_X9_166 f_10_89 (by decide) ?_
    refine zs_iconst (pc := 35) C dX9_back_35 (by decide) ?_
    refine zVv2 (pc := 36) C dX9_back_36 v_X9_550 (c_X9_take6 hX (by first | omega | (simp only [zuI_1, zuI_2, zuJ_1, zuJ_2, zuJ_3, zuP_1, zuP_2, zuP_3, zuC_1, zuC_2, reduceIte, Nat.reduceEqDiff, false_and, and_false, true_and, and_true, and_self, or_true, true_or, or_false, false_or]; omega))) (by decide) (by decide) ⟨Nat.zero_le _, Nat.zero_le _⟩ (Nat.le_of_ble_eq_true rfl) (fun G36 hp36 => ?_)
    obtain ⟨hz36, hq36⟩ := hp36
    try simp only [zuI_1, zuI_2, zuJ_1, zuJ_2, zuJ_3, zuP_1, zuP_2, zuP_3, zuC_1, zuC_2, reduceIte, Nat.reduceEqDiff, false_and, and_false, true_and, and_true, and_self, or_true, true_or, or_false, false_or] at hq36
    refine zs_iconst (pc := 39) C dX9_back_39 (by decide) ?_
    refine zs_istore_n (pc := 40) C dX9_back_40 (by decide) ?_
    dsimp only [zset, zclr, znone]
    have L41 : ∀ (nn : Nat) (x1 : Int) (G1 : zH), (0 ≤ x1 ∧ x1 ≤ 60) → (zsm [2081, 2082, 2083, 2084, 2085, 2086, 2087, 2088, 2089, 2090, 2094, 2091, 2092, 2093, 2095, 2096, 2097, 2098, 2099, 2100, 1002, 1083, 1084] G G1) → (60 - x1).toNat < nn → Z p l e (zrm 1) s m args below meth c Γ 2 0 0 (MQ below (zQc Γ (zpi (fun x G' => zsm [2081, 2082, 2083, 2084, 2085, 2086, 2087, 2088, 2089, 2090, 2094, 2091, 2092, 2093, 2095, 2096, 2097, 2098, 2099, 2100, 1002, 1083, 1084] G G' ∧ True))) args s 0 0 (zA Γ)) 41 [some (zr 10 w), some (zi x1)] [] G1 := by
      intro nn
      induction nn with
      | zero => intro x1 G1 h41_0 h41_1 hm; exact absurd hm (Nat.not_lt_zero _)
      | succ nn ih41 =>
        intro x1 G1 h41_0 h41_1 hm41
        refine zs_iload_n (pc := 41) C dX9_back_41 rfl ?_
        refine zs_bipush (pc := 42) C dX9_back_42 (by decide) (by decide) ?_
        refine zs_icmp_ge (tgt := 191) (pc := 44) C dX9_back_44 (by decide) (fun h44 => ?_) (fun h44 => ?_)
        · skip
          refine zs_aload_n (pc := 191) C dX9_back_191 rfl ?_
          refine zs_iconst (pc := 192) C dX9_back_192 (by decide) ?_
          refine zs_puti (r := 1084) (pc := 193) C dX9_back_193 w_X9_382 f_10_84 rfl (r_1084 0) (by omega) ?_
          refine zs_aload_n (pc := 196) C dX9_back_196 rfl ?_
          refine zs_getf (pc := 197) C dX9_back_197 w_X9_115 f_10_60 (by decide) ?_
          refine zs_iconst (pc := 200) C dX9_back_200 (by decide) ?_
          refine zs_iald (r := 2090) (pc := 201) C dX9_back_201 a_90 (by decide) (by omega) rfl (r_2090 _) (fun v201 e201 l201 u201 => ?_)
          try simp only [zuI_1, zuI_2, zuJ_1, zuJ_2, zuJ_3, zuP_1, zuP_2, zuP_3, zuC_1, zuC_2, reduceIte, Nat.reduceEqDiff, false_and, and_false, true_and, and_true, and_self, or_true, true_or, or_false, false_or] at e201
          exact zs_iret (pc := 202) C hr hlk dX9_back_202 ⟨by repeat (first | exact zsm_rf | assumption | refine zsm_C (by decide) ?_ | refine zsm_I (by decide) ?_ | refine zsm_J ?_ | refine zsm_c (by assumption) (by decide) ?_), trivial⟩
        · skip
          refine zs_aload_n (pc := 47) C dX9_back_47 rfl ?_
          refine zs_getf (pc := 48) C dX9_back_48 w_X9_118 f_10_62 (by decide) ?_
          refine zs_iload_n (pc := 51) C dX9_back_51 rfl ?_
          refine zs_aload_n (pc := 52) C dX9_back_52 rfl ?_
          refine zs_getf (pc := 53) C dX9_back_53 w_X9_169 f_10_90 (by decide) ?_
          refine zs_iload_n (pc := 56) C dX9_back_56 rfl ?_
          refine zs_iald (r := 2107) (pc := 57) C dX9_back_57 a_107 (by decide) (by omega) rfl (rg7_a (by omega)) (fun v57 e57 l57 u57 => ?_)
          refine zs_iast (r := 2091) (pc := 58) C dX9_back_58 a_91 (by decide) (by omega) rfl (r_2091 _) (by omega) ?_
          refine zs_aload_n (pc := 59) C dX9_back_59 rfl ?_
          refine zs_getf (pc := 60) C dX9_back_60 w_X9_121 f_10_63 (by decide) ?_
          refine zs_iload_n (pc := 63) C dX9_back_63 rfl ?_
          refine zs_aload_n (pc := 64) C dX9_back_64 rfl ?_
          refine zs_getf (pc := 65) C dX9_back_65 w_X9_169 f_10_90 (by decide) ?_
          refine zs_bipush (pc := 68) C dX9_back_68 (by decide) (by decide) ?_
          refine zs_iload_n (pc := 70) C dX9_back_70 rfl ?_
          first | refine zs_iadd (pc := 71) C dX9_back_71 (by omega) ?_ | refine zs_iaddF (pc := 71) C dX9_back_71 (fun z71 hz711 hz712 => ?_)
          refine zs_iald (r := 2107) (pc := 72) C dX9_back_72 a_107 (by decide) (by omega) rfl (rg7_b (by omega)) (fun v72 e72 l72 u72 => ?_)
          try simp only [zuI_1, zuI_2, zuJ_1, zuJ_2, zuJ_3, zuP_1, zuP_2, zuP_3, zuC_1, zuC_2, reduceIte, Nat.reduceEqDiff, false_and, and_false, true_and, and_true, and_self, or_true, true_or, or_false, false_or] at e72
          refine zs_iast (r := 2092) (pc := 73) C dX9_back_73 a_92 (by decide) (by omega) rfl (r_2092 _) (by omega) ?_
          refine zs_aload_n (pc := 74) C dX9_back_74 rfl ?_
          refine zs_getf (pc := 75) C dX9_back_75 w_X9_124 f_10_64 (by decide) ?_
          refine zs_iload_n (pc := 78) C dX9_back_78 rfl ?_
          refine zs_aload_n (pc := 79) C dX9_back_79 rfl ?_
          refine zs_getf (pc := 80) C dX9_back_80 w_X9_169 f_10_90 (by decide) ?_
          refine zs_bipush (pc := 83) C dX9_back_83 (by decide) (by decide) ?_
          refine zs_iload_n (pc := 85) C dX9_back_85 rfl ?_
          first | refine zs_iadd (pc := 86) C dX9_back_86 (by omega) ?_ | refine zs_iaddF (pc := 86) C dX9_back_86 (fun z86 hz861 hz862 => ?_)
          refine zs_iald (r := 2107) (pc := 87) C dX9_back_87 a_107 (by decide) (by omega) rfl (rg7_c (by omega)) (fun v87 e87 l87 u87 => ?_)
          try simp only [zuI_1, zuI_2, zuJ_1, zuJ_2, zuJ_3, zuP_1, zuP_2, zuP_3, zuC_1, zuC_2, reduceIte, Nat.reduceEqDiff, false_and, and_false, true_and, and_true, and_self, or_true, true_or, or_false, false_or] at e87
          refine zs_iast (r := 2093) (pc := 88) C dX9_back_88 a_93 (by decide) (by omega) rfl (r_2093 _) (by omega) ?_
          refine zs_aload_n (pc := 89) C dX9_back_89 rfl ?_
          refine zs_getf (pc := 90) C dX9_back_90 w_X9_130 f_10_66 (by decide) ?_
          refine zs_iload_n (pc := 93) C dX9_back_93 rfl ?_
          refine zs_aload_n (pc := 94) C dX9_back_94 rfl ?_
          refine zs_getf (pc := 95) C dX9_back_95 w_X9_169 f_10_90 (by decide) ?_
          refine zs_sipush (pc := 98) C dX9_back_98 (by decide) (by decide) ?_
          refine zs_iload_n (pc := 101) C dX9_back_101 rfl ?_
          first | refine zs_iadd (pc := 102) C dX9_back_102 (by omega) ?_ | refine zs_iaddF (pc := 102) C dX9_back_102 (fun z102 hz1021 hz1022 => ?_)
          refine zs_iald (r := 2107) (pc := 103) C dX9_back_103 a_107 (by decide) (by omega) rfl (rg7_c (by omega)) (fun v103 e103 l103 u103 => ?_)
          try simp only [zuI_1, zuI_2, zuJ_1, zuJ_2, zuJ_3, zuP_1, zuP_2, zuP_3, zuC_1, zuC_2, reduceIte, Nat.reduceEqDiff, false_and, and_false, true_and, and_true, and_self, or_true, true_or, or_false, false_or] at e103
          refine zs_iast (r := 2095) (pc := 104) C dX9_back_104 a_95 (by decide) (by omega) rfl (r_2095 _) (by omega) ?_
          refine zs_aload_n (pc := 105) C dX9_back_105 rfl ?_
          refine zs_getf (pc := 106) C dX9_back_106 w_X9_133 f_10_67 (by decide) ?_
          refine zs_iload_n (pc := 109) C dX9_back_109 rfl ?_
          refine zs_aload_n (pc := 110) C dX9_back_110 rfl ?_
          refine zs_getf (pc := 111) C dX9_back_111 w_X9_169 f_10_90 (by decide) ?_
          refine zs_sipush (pc := 114) C dX9_back_114 (by decide) (by decide) ?_
          refine zs_iload_n (pc := 117) C dX9_back_117 rfl ?_
          first | refine zs_iadd (pc := 118) C dX9_back_118 (by omega) ?_ | refine zs_iaddF (pc := 118) C dX9_back_118 (fun z118 hz1181 hz1182 => ?_)
          refine zs_iald (r := 2107) (pc := 119) C dX9_back_119 a_107 (by decide) (by omega) rfl (rg7_c (by omega)) (fun v119 e119 l119 u119 => ?_)
          try simp only [zuI_1, zuI_2, zuJ_1, zuJ_2, zuJ_3, zuP_1, zuP_2, zuP_3, zuC_1, zuC_2, reduceIte, Nat.reduceEqDiff, false_and, and_false, true_and, and_true, and_self, or_true, true_or, or_false, false_or] at e119
          refine zs_iast (r := 2096) (pc := 120) C dX9_back_120 a_96 (by decide) (by omega) rfl (r_2096 _) (by omega) ?_
          refine zs_aload_n (pc := 121) C dX9_back_121 rfl ?_
          refine zs_getf (pc := 122) C dX9_back_122 w_X9_136 f_10_68 (by decide) ?_
          refine zs_iload_n (pc := 125) C dX9_back_125 rfl ?_
          refine zs_aload_n (pc := 126) C dX9_back_126 rfl ?_
          refine zs_getf (pc := 127) C dX9_back_127 w_X9_169 f_10_90 (by decide) ?_
          refine zs_sipush (pc := 130) C dX9_back_130 (by decide) (by decide) ?_
          refine zs_iload_n (pc := 133) C dX9_back_133 rfl ?_
          first | refine zs_iadd (pc := 134) C dX9_back_134 (by omega) ?_ | refine zs_iaddF (pc := 134) C dX9_back_134 (fun z134 hz1341 hz1342 => ?_)
          refine zs_iald (r := 2107) (pc := 135) C dX9_back_135 a_107 (by decide) (by omega) rfl (rg7_c (by omega)) (fun v135 e135 l135 u135 => ?_)
          try simp only [zuI_1, zuI_2, zuJ_1, zuJ_2, zuJ_3, zuP_1, zuP_2, zuP_3, zuC_1, zuC_2, reduceIte, Nat.reduceEqDiff, false_and, and_false, true_and, and_true, and_self, or_true, true_or, or_false, false_or] at e135
          refine zs_iast (r := 2097) (pc := 136) C dX9_back_136 a_97 (by decide) (by omega) rfl (r_2097 _) (by omega) ?_
          refine zs_aload_n (pc := 137) C dX9_back_137 rfl ?_
          refine zs_getf (pc := 138) C dX9_back_138 w_X9_139 f_10_69 (by decide) ?_
          refine zs_iload_n (pc := 141) C dX9_back_141 rfl ?_
          refine zs_aload_n (pc := 142) C dX9_back_142 rfl ?_
          refine zs_getf (pc := 143) C dX9_back_143 w_X9_169 f_10_90 (by decide) ?_
          refine zs_sipush (pc := 146) C dX9_back_146 (by decide) (by decide) ?_
          refine zs_iload_n (pc := 149) C dX9_back_149 rfl ?_
          first | refine zs_iadd (pc := 150) C dX9_back_150 (by omega) ?_ | refine zs_iaddF (pc := 150) C dX9_back_150 (fun z150 hz1501 hz1502 => ?_)
          refine zs_iald (r := 2107) (pc := 151) C dX9_back_151 a_107 (by decide) (by omega) rfl (rg7_c (by omega)) (fun v151 e151 l151 u151 => ?_)
          try simp only [zuI_1, zuI_2, zuJ_1, zuJ_2, zuJ_3, zuP_1, zuP_2, zuP_3, zuC_1, zuC_2, reduceIte, Nat.reduceEqDiff, false_and, and_false, true_and, and_true, and_self, or_true, true_or, or_false, false_or] at e151
          refine zs_iast (r := 2098) (pc := 152) C dX9_back_152 a_98 (by decide) (by omega) rfl (r_2098 _) (by omega) ?_
          refine zs_aload_n (pc := 153) C dX9_back_153 rfl ?_
          refine zs_getf (pc := 154) C dX9_back_154 w_X9_142 f_10_70 (by decide) ?_
          refine zs_iload_n (pc := 157) C dX9_back_157 rfl ?_
          refine zs_aload_n (pc := 158) C dX9_back_158 rfl ?_
          refine zs_getf (pc := 159) C dX9_back_159 w_X9_169 f_10_90 (by decide) ?_
          refine zs_sipush (pc := 162) C dX9_back_162 (by decide) (by decide) ?_
          refine zs_iload_n (pc := 165) C dX9_back_165 rfl ?_
          first | refine zs_iadd (pc := 166) C dX9_back_166 (by omega) ?_ | refine zs_iaddF (pc := 166) C dX9_back_166 (fun z166 hz1661 hz1662 => ?_)
          refine zs_iald (r := 2107) (pc := 167) C dX9_back_167 a_107 (by decide) (by omega) rfl (rg7_c (by omega)) (fun v167 e167 l167 u167 => ?_)
          try simp only [zuI_1, zuI_2, zuJ_1, zuJ_2, zuJ_3, zuP_1, zuP_2, zuP_3, zuC_1, zuC_2, reduceIte, Nat.reduceEqDiff, false_and, and_false, true_and, and_true, and_self, or_true, true_or, or_false, false_or] at e167
          refine zs_iast (r := 2099) (pc := 168) C dX9_back_168 a_99 (by decide) (by omega) rfl (r_2099 _) (by omega) ?_
          refine zs_aload_n (pc := 169) C dX9_back_169 rfl ?_
          refine zs_getf (pc := 170) C dX9_back_170 w_X9_145 f_10_71 (by decide) ?_
          refine zs_iload_n (pc := 173) C dX9_back_173 rfl ?_
          refine zs_aload_n (pc := 174) C dX9_back_174 rfl ?_
          refine zs_getf (pc := 175) C dX9_back_175 w_X9_169 f_10_90 (by decide) ?_
          refine zs_sipush (pc := 178) C dX9_back_178 (by decide) (by decide) ?_
          refine zs_iload_n (pc := 181) C dX9_back_181 rfl ?_
          first | refine zs_iadd (pc := 182) C dX9_back_182 (by omega) ?_ | refine zs_iaddF (pc := 182) C dX9_back_182 (fun z182 hz1821 hz1822 => ?_)
          refine zs_iald (r := 2107) (pc := 183) C dX9_back_183 a_107 (by decide) (by omega) rfl (rg7_c (by omega)) (fun v183 e183 l183 u183 => ?_)
          try simp only [zuI_1, zuI_2, zuJ_1, zuJ_2, zuJ_3, zuP_1, zuP_2, zuP_3, zuC_1, zuC_2, reduceIte, Nat.reduceEqDiff, false_and, and_false, true_and, and_true, and_self, or_true, true_or, or_false, false_or] at e183
          refine zs_iast (r := 2100) (pc := 184) C dX9_back_184 a_100 (by decide) (by omega) rfl (r_2100 _) (by omega) ?_
          first | refine zs_iinc (pc := 185) C dX9_back_185 rfl (by decide) (by omega) ?_ | refine zs_iincF (pc := 185) C dX9_back_185 rfl (by decide) (fun z185 hz1851 hz1852 => ?_)
          dsimp only [zset, zclr, znone]
          refine zs_goto (tgt := 41) (pc := 188) C dX9_back_188 (by decide) ?_
          exact zs_wk (ih41 _ _ (by first | omega | (simp only [zuI_1, zuI_2, zuJ_1, zuJ_2, zuJ_3, zuP_1, zuP_2, zuP_3, zuC_1, zuC_2, reduceIte, Nat.reduceEqDiff, false_and, and_false, true_and, and_true, and_self, or_true, true_or, or_false, false_or]; omega)) (by repeat (first | exact zsm_rf | assumption | refine zsm_C (by decide) ?_ | refine zsm_I (by decide) ?_ | refine zsm_J ?_ | refine zsm_c (by assumption) (by decide) ?_)) (by first | omega | (simp only [zuI_1, zuI_2, zuJ_1, zuJ_2, zuJ_3, zuP_1, zuP_2, zuP_3, zuC_1, zuC_2, reduceIte, Nat.reduceEqDiff, false_and, and_false, true_and, and_true, and_self, or_true, true_or, or_false, false_or]; omega))) (zwk_s rfl (zwk_s rfl zwk_0))
    exact zs_wk (L41 _ _ _ (by first | omega | (simp only [zuI_1, zuI_2, zuJ_1, zuJ_2, zuJ_3, zuP_1, zuP_2, zuP_3, zuC_1, zuC_2, reduceIte, Nat.reduceEqDiff, false_and, and_false, true_and, and_true, and_self, or_true, true_or, or_false, false_or]; omega)) (by repeat (first | exact zsm_rf | assumption | refine zsm_C (by decide) ?_ | refine zsm_I (by decide) ?_ | refine zsm_J ?_ | refine zsm_c (by assumption) (by decide) ?_)) (Nat.lt_succ_self _)) (zwk_s rfl (zwk_s rfl zwk_0))
  · skip
    refine zs_iconst (pc := 12) C dX9_back_12 (by decide) ?_
    exact zs_iret (pc := 13) C hr hlk dX9_back_13 ⟨by repeat (first | exact zsm_rf | assumption | refine zsm_C (by decide) ?_ | refine zsm_I (by decide) ?_ | refine zsm_J ?_ | refine zsm_c (by assumption) (by decide) ?_), trivial⟩

set_option maxHeartbeats 4000000 in
set_option maxRecDepth 100000 in
theorem c_X9_confess {l : Launch} {Γ : zΓ} {G : zH} {w : Nat} {a b : Int} (hX : zXs Γ) (hM : MI Γ w G) : zMet l Γ yX9_confess cX9_confess 3 (some .int) 6 [zr 10 w, zi a, zi b] G (zpi (fun x G' => zsm [2091, 2092, 2093, 2094, 2095, 2096, 2097, 2098, 2099, 2100, 2088, 2087, 2082, 2084, 2083, 2089, 1050, 2105, 1084, 1002] G G' ∧ True)) := by
  refine zMet_of RX9 hX (by decide) rfl (Nat.le_of_ble_eq_true rfl) ?_
  intro p e s m args below meth c C hr hlk
  show Z p l e (zrm 6) s m args below meth c Γ 3 0 0 (MQ below (zQc Γ (zpi (fun x G' => zsm [2091, 2092, 2093, 2094, 2095, 2096, 2097, 2098, 2099, 2100, 2088, 2087, 2082, 2084, 2083, 2089, 1050, 2105, 1084, 1002] G G' ∧ True))) args s 0 0 (zA Γ)) 0 [some (zr 10 w), some (zi a), some (zi b)] [] G
  refine zs_loc 1 rfl (fun ha1 hb1 => ?_)
  refine zs_loc 2 rfl (fun ha2 hb2 => ?_)
  refine zs_aload_n (pc := 0) C dX9_confess_0 rfl ?_
  refine zs_iconst (pc := 1) C dX9_confess_1 (by decide) ?_
  refine zs_puti (r := 1002) (pc := 2) C dX9_confess_2 w_X9_178 f_10_2 rfl (r_1002 0) (by omega) ?_
  refine zs_aload_n (pc := 5) C dX9_confess_5 rfl ?_
  refine zs_iload_n (pc := 6) C dX9_confess_6 rfl ?_
  refine zVip1 (pc := 7) C dX9_confess_7 v_X9_398 (c_X9_isPerson hX ) (by decide) (by decide) ⟨Nat.zero_le _, Nat.zero_le _⟩ (Nat.le_of_ble_eq_true rfl) (fun x7 l7 u7 hp7 => ?_)
  have hq7 := hp7
  try simp only [zuI_1, zuI_2, zuJ_1, zuJ_2, zuJ_3, zuP_1, zuP_2, zuP_3, zuC_1, zuC_2, reduceIte, Nat.reduceEqDiff, false_and, and_false, true_and, and_true, and_self, or_true, true_or, or_false, false_or] at hq7
  refine zs_if_eq (tgt := 21) (pc := 10) C dX9_confess_10 (by decide) (fun h10 => ?_) (fun h10 => ?_)
  · skip
    refine zs_iconst (pc := 21) C dX9_confess_21 (by decide) ?_
    exact zs_iret (pc := 22) C hr hlk dX9_confess_22 ⟨by repeat (first | exact zsm_rf | assumption | refine zsm_C (by decide) ?_ | refine zsm_I (by decide) ?_ | refine zsm_J ?_ | refine zsm_c (by assumption) (by decide) ?_), trivial⟩
  · skip
    refine zs_aload_n (pc := 13) C dX9_confess_13 rfl ?_
    refine zs_iload_n (pc := 14) C dX9_confess_14 rfl ?_
    refine zVip1 (pc := 15) C dX9_confess_15 v_X9_407 (c_X9_isSin hX ) (by decide) (by decide) ⟨Nat.zero_le _, Nat.zero_le _⟩ (Nat.le_of_ble_eq_true rfl) (fun x15 l15 u15 hp15 => ?_)
    have hq15 := hp15
    try simp only [zuI_1, zuI_2, zuJ_1, zuJ_2, zuJ_3, zuP_1, zuP_2, zuP_3, zuC_1, zuC_2, reduceIte, Nat.reduceEqDiff, false_and, and_false, true_and, and_true, and_self, or_true, true_or, or_false, false_or] at hq15
    refine zs_if_ne (tgt := 23) (pc := 18) C dX9_confess_18 (by decide) (fun h18 => ?_) (fun h18 => ?_)
    · skip
      refine zs_aload_n (pc := 23) C dX9_confess_23 rfl ?_
      refine zs_iconst (pc := 24) C dX9_confess_24 (by decide) ?_
      refine zVip1 (pc := 25) C dX9_confess_25 v_X9_439 (c_X9_canGrind hX (by first | omega | (simp only [zuI_1, zuI_2, zuJ_1, zuJ_2, zuJ_3, zuP_1, zuP_2, zuP_3, zuC_1, zuC_2, reduceIte, Nat.reduceEqDiff, false_and, and_false, true_and, and_true, and_self, or_true, true_or, or_false, false_or]; omega))) (by decide) (by decide) ⟨Nat.zero_le _, Nat.zero_le _⟩ (Nat.le_of_ble_eq_true rfl) (fun x25 l25 u25 hp25 => ?_)
      have hq25 := hp25
      try simp only [zuI_1, zuI_2, zuJ_1, zuJ_2, zuJ_3, zuP_1, zuP_2, zuP_3, zuC_1, zuC_2, reduceIte, Nat.reduceEqDiff, false_and, and_false, true_and, and_true, and_self, or_true, true_or, or_false, false_or] at hq25
      refine zs_if_ne (tgt := 34) (pc := 28) C dX9_confess_28 (by decide) (fun h28 => ?_) (fun h28 => ?_)
      · skip
        refine zs_aload_n (pc := 34) C dX9_confess_34 rfl ?_
        refine zVv0 (pc := 35) C dX9_confess_35 v_X9_442 (c_X9_remember hX ) (by decide) (by decide) ⟨Nat.zero_le _, Nat.zero_le _⟩ (Nat.le_of_ble_eq_true rfl) (fun G35 hp35 => ?_)
        obtain ⟨hz35, hq35⟩ := hp35
        try simp only [zuI_1, zuI_2, zuJ_1, zuJ_2, zuJ_3, zuP_1, zuP_2, zuP_3, zuC_1, zuC_2, reduceIte, Nat.reduceEqDiff, false_and, and_false, true_and, and_true, and_self, or_true, true_or, or_false, false_or] at hq35
        have t2088_35 := zsm_at hz35 2088 (Γ.2.1 w 58) (0 : Int).toNat (by decide)
        try simp only [zuI_1, zuI_2, zuJ_1, zuJ_2, zuJ_3, zuP_1, zuP_2, zuP_3, zuC_1, zuC_2, reduceIte, Nat.reduceEqDiff, false_and, and_false, true_and, and_true, and_self, or_true, true_or, or_false, false_or] at t2088_35
        have t2087_35 := zsm_at hz35 2087 (Γ.2.1 w 57) (0 : Int).toNat (by decide)
        try simp only [zuI_1, zuI_2, zuJ_1, zuJ_2, zuJ_3, zuP_1, zuP_2, zuP_3, zuC_1, zuC_2, reduceIte, Nat.reduceEqDiff, false_and, and_false, true_and, and_true, and_self, or_true, true_or, or_false, false_or] at t2087_35
        refine zs_aload_n (pc := 38) C dX9_confess_38 rfl ?_
        refine zs_iconst (pc := 39) C dX9_confess_39 (by decide) ?_
        refine zs_iload_n (pc := 40) C dX9_confess_40 rfl ?_
        refine zs_iload_n (pc := 41) C dX9_confess_41 rfl ?_
        refine zVi3 (pc := 42) C dX9_confess_42 v_X9_445 (c_X9_grinds hX (by repeat (first | assumption | refine MI_I (by decide) ?_ | refine MI_J ?_ | refine MI_sm (by assumption) (by decide) ?_ | refine MI_sn (by assumption) (by decide) ?_)) (by omega) (by omega) (by omega) (by omega) (by omega)) (by decide) (by decide) ⟨Nat.zero_le _, Nat.zero_le _⟩ (Nat.le_of_ble_eq_true rfl) (fun x42 G42 l42 u42 hp42 => ?_)
        obtain ⟨hz42, hq42⟩ := hp42
        exact zs_iret (pc := 45) C hr hlk dX9_confess_45 ⟨by repeat (first | exact zsm_rf | assumption | refine zsm_C (by decide) ?_ | refine zsm_I (by decide) ?_ | refine zsm_J ?_ | refine zsm_c (by assumption) (by decide) ?_), trivial⟩
      · skip
        refine zs_bipush (pc := 31) C dX9_confess_31 (by decide) (by decide) ?_
        exact zs_iret (pc := 33) C hr hlk dX9_confess_33 ⟨by repeat (first | exact zsm_rf | assumption | refine zsm_C (by decide) ?_ | refine zsm_I (by decide) ?_ | refine zsm_J ?_ | refine zsm_c (by assumption) (by decide) ?_), trivial⟩
    · skip
      refine zs_iconst (pc := 21) C dX9_confess_21 (by decide) ?_
      exact zs_iret (pc := 22) C hr hlk dX9_confess_22 ⟨by repeat (first | exact zsm_rf | assumption | refine zsm_C (by decide) ?_ | refine zsm_I (by decide) ?_ | refine zsm_J ?_ | refine zsm_c (by assumption) (by decide) ?_), trivial⟩

set_option maxHeartbeats 4000000 in
set_option maxRecDepth 100000 in
theorem c_X9_ask {l : Launch} {Γ : zΓ} {G : zH} {w : Nat} {a : Int} (hX : zXs Γ) (hM : MI Γ w G) : zMet l Γ yX9_ask cX9_ask 3 (some .int) 6 [zr 10 w, zi a] G (zpi (fun x G' => zsm [2091, 2092, 2093, 2094, 2095, 2096, 2097, 2098, 2099, 2100, 2088, 2087, 2082, 2084, 2083, 2089, 1050, 2105, 1084, 1002] G G' ∧ True)) := by
  refine zMet_of RX9 hX (by decide) rfl (Nat.le_of_ble_eq_true rfl) ?_
  intro p e s m args below meth c C hr hlk
  show Z p l e (zrm 6) s m args below meth c Γ 3 0 0 (MQ below (zQc Γ (zpi (fun x G' => zsm [2091, 2092, 2093, 2094, 2095, 2096, 2097, 2098, 2099, 2100, 2088, 2087, 2082, 2084, 2083, 2089, 1050, 2105, 1084, 1002] G G' ∧ True))) args s 0 0 (zA Γ)) 0 [some (zr 10 w), some (zi a), none] [] G
  refine zs_loc 1 rfl (fun ha1 hb1 => ?_)
  refine zs_aload_n (pc := 0) C dX9_ask_0 rfl ?_
  refine zs_iconst (pc := 1) C dX9_ask_1 (by decide) ?_
  refine zs_puti (r := 1002) (pc := 2) C dX9_ask_2 w_X9_178 f_10_2 rfl (r_1002 0) (by omega) ?_
  refine zs_aload_n (pc := 5) C dX9_ask_5 rfl ?_
  refine zs_iload_n (pc := 6) C dX9_ask_6 rfl ?_
  refine zVip1 (pc := 7) C dX9_ask_7 v_X9_398 (c_X9_isPerson hX ) (by decide) (by decide) ⟨Nat.zero_le _, Nat.zero_le _⟩ (Nat.le_of_ble_eq_true rfl) (fun x7 l7 u7 hp7 => ?_)
  have hq7 := hp7
  try simp only [zuI_1, zuI_2, zuJ_1, zuJ_2, zuJ_3, zuP_1, zuP_2, zuP_3, zuC_1, zuC_2, reduceIte, Nat.reduceEqDiff, false_and, and_false, true_and, and_true, and_self, or_true, true_or, or_false, false_or] at hq7
  refine zs_if_ne (tgt := 15) (pc := 10) C dX9_ask_10 (by decide) (fun h10 => ?_) (fun h10 => ?_)
  · skip
    refine zs_aload_n (pc := 15) C dX9_ask_15 rfl ?_
    refine zs_iconst (pc := 16) C dX9_ask_16 (by decide) ?_
    refine zVip1 (pc := 17) C dX9_ask_17 v_X9_439 (c_X9_canGrind hX (by first | omega | (simp only [zuI_1, zuI_2, zuJ_1, zuJ_2, zuJ_3, zuP_1, zuP_2, zuP_3, zuC_1, zuC_2, reduceIte, Nat.reduceEqDiff, false_and, and_false, true_and, and_true, and_self, or_true, true_or, or_false, false_or]; omega))) (by decide) (by decide) ⟨Nat.zero_le _, Nat.zero_le _⟩ (Nat.le_of_ble_eq_true rfl) (fun x17 l17 u17 hp17 => ?_)
    have hq17 := hp17
    try simp only [zuI_1, zuI_2, zuJ_1, zuJ_2, zuJ_3, zuP_1, zuP_2, zuP_3, zuC_1, zuC_2, reduceIte, Nat.reduceEqDiff, false_and, and_false, true_and, and_true, and_self, or_true, true_or, or_false, false_or] at hq17
    refine zs_if_ne (tgt := 26) (pc := 20) C dX9_ask_20 (by decide) (fun h20 => ?_) (fun h20 => ?_)
    · skip
      refine zs_aload_n (pc := 26) C dX9_ask_26 rfl ?_
      refine zs_iload_n (pc := 27) C dX9_ask_27 rfl ?_
      refine zVi1 (pc := 28) C dX9_ask_28 v_X9_462 (c_X9_asked hX (by first | omega | (simp only [zuI_1, zuI_2, zuJ_1, zuJ_2, zuJ_3, zuP_1, zuP_2, zuP_3, zuC_1, zuC_2, reduceIte, Nat.reduceEqDiff, false_and, and_false, true_and, and_true, and_self, or_true, true_or, or_false, false_or]; omega))) (by decide) (by decide) ⟨Nat.zero_le _, Nat.zero_le _⟩ (Nat.le_of_ble_eq_true rfl) (fun x28 G28 l28 u28 hp28 => ?_)
      obtain ⟨hz28, hq28⟩ := hp28
      try simp only [zuI_1, zuI_2, zuJ_1, zuJ_2, zuJ_3, zuP_1, zuP_2, zuP_3, zuC_1, zuC_2, reduceIte, Nat.reduceEqDiff, false_and, and_false, true_and, and_true, and_self, or_true, true_or, or_false, false_or] at hq28
      have t2088_28 := zsm_at hz28 2088 (Γ.2.1 w 58) (0 : Int).toNat (by decide)
      try simp only [zuI_1, zuI_2, zuJ_1, zuJ_2, zuJ_3, zuP_1, zuP_2, zuP_3, zuC_1, zuC_2, reduceIte, Nat.reduceEqDiff, false_and, and_false, true_and, and_true, and_self, or_true, true_or, or_false, false_or] at t2088_28
      have t2087_28 := zsm_at hz28 2087 (Γ.2.1 w 57) (0 : Int).toNat (by decide)
      try simp only [zuI_1, zuI_2, zuJ_1, zuJ_2, zuJ_3, zuP_1, zuP_2, zuP_3, zuC_1, zuC_2, reduceIte, Nat.reduceEqDiff, false_and, and_false, true_and, and_true, and_self, or_true, true_or, or_false, false_or] at t2087_28
      refine zs_istore_n (pc := 31) C dX9_ask_31 (by decide) ?_
      dsimp only [zset, zclr, znone]
      refine zs_iload_n (pc := 32) C dX9_ask_32 rfl ?_
      refine zs_if_ge (tgt := 39) (pc := 33) C dX9_ask_33 (by decide) (fun h33 => ?_) (fun h33 => ?_)
      · skip
        refine zs_aload_n (pc := 39) C dX9_ask_39 rfl ?_
        refine zVv0 (pc := 40) C dX9_ask_40 v_X9_442 (c_X9_remember hX ) (by decide) (by decide) ⟨Nat.zero_le _, Nat.zero_le _⟩ (Nat.le_of_ble_eq_true rfl) (fun G40 hp40 => ?_)
        obtain ⟨hz40, hq40⟩ := hp40
        have t2088_40 := zsm_at hz40 2088 (Γ.2.1 w 58) (0 : Int).toNat (by decide)
        try simp only [zuI_1, zuI_2, zuJ_1, zuJ_2, zuJ_3, zuP_1, zuP_2, zuP_3, zuC_1, zuC_2, reduceIte, Nat.reduceEqDiff, false_and, and_false, true_and, and_true, and_self, or_true, true_or, or_false, false_or] at t2088_40
        have t2087_40 := zsm_at hz40 2087 (Γ.2.1 w 57) (0 : Int).toNat (by decide)
        try simp only [zuI_1, zuI_2, zuJ_1, zuJ_2, zuJ_3, zuP_1, zuP_2, zuP_3, zuC_1, zuC_2, reduceIte, Nat.reduceEqDiff, false_and, and_false, true_and, and_true, and_self, or_true, true_or, or_false, false_or] at t2087_40
        refine zs_aload_n (pc := 43) C dX9_ask_43 rfl ?_
        refine zs_iconst (pc := 44) C dX9_ask_44 (by decide) ?_
        refine zs_iload_n (pc := 45) C dX9_ask_45 rfl ?_
        refine zs_iload_n (pc := 46) C dX9_ask_46 rfl ?_
        refine zVi3 (pc := 47) C dX9_ask_47 v_X9_445 (c_X9_grinds hX (by repeat (first | assumption | refine MI_I (by decide) ?_ | refine MI_J ?_ | refine MI_sm (by assumption) (by decide) ?_ | refine MI_sn (by assumption) (by decide) ?_)) (by omega) (by omega) (by omega) (by omega) (by omega)) (by decide) (by decide) ⟨Nat.zero_le _, Nat.zero_le _⟩ (Nat.le_of_ble_eq_true rfl) (fun x47 G47 l47 u47 hp47 => ?_)
        obtain ⟨hz47, hq47⟩ := hp47
        exact zs_iret (pc := 50) C hr hlk dX9_ask_50 ⟨by repeat (first | exact zsm_rf | assumption | refine zsm_C (by decide) ?_ | refine zsm_I (by decide) ?_ | refine zsm_J ?_ | refine zsm_c (by assumption) (by decide) ?_), trivial⟩
      · skip
        refine zs_bipush (pc := 36) C dX9_ask_36 (by decide) (by decide) ?_
        exact zs_iret (pc := 38) C hr hlk dX9_ask_38 ⟨by repeat (first | exact zsm_rf | assumption | refine zsm_C (by decide) ?_ | refine zsm_I (by decide) ?_ | refine zsm_J ?_ | refine zsm_c (by assumption) (by decide) ?_), trivial⟩
    · skip
      refine zs_bipush (pc := 23) C dX9_ask_23 (by decide) (by decide) ?_
      exact zs_iret (pc := 25) C hr hlk dX9_ask_25 ⟨by repeat (first | exact zsm_rf | assumption | refine zsm_C (by decide) ?_ | refine zsm_I (by decide) ?_ | refine zsm_J ?_ | refine zsm_c (by assumption) (by decide) ?_), trivial⟩
  · skip
    refine zs_iconst (pc := 13) C dX9_ask_13 (by decide) ?_
    exact zs_iret (pc := 14) C hr hlk dX9_ask_14 ⟨by repeat (first | exact zsm_rf | assumption | refine zsm_C (by decide) ?_ | refine zsm_I (by decide) ?_ | refine zsm_J ?_ | refine zsm_c (by assumption) (by decide) ?_), trivial⟩

set_option maxHeartbeats 4000000 in
set_option maxRecDepth 100000 in
theorem c_X9_fall {l : Launch} {Γ : zΓ} {G : zH} {w : Nat} {a b : Int} (hX : zXs Γ)  : zMet l Γ yX9_fall cX9_fall 3 (some .int) 2 [zr 10 w, zi a, zi b] G (zpi (fun x G' => zsm [2105, 1084, 1002, 2081, 2085] G G' ∧ True)) := by
  refine zMet_of RX9 hX (by decide) rfl (Nat.le_of_ble_eq_true rfl) ?_
  intro p e s m args below meth c C hr hlk
  show Z p l e (zrm 2) s m args below meth c Γ 3 0 0 (MQ below (zQc Γ (zpi (fun x G' => zsm [2105, 1084, 1002, 2081, 2085] G G' ∧ True))) args s 0 0 (zA Γ)) 0 [some (zr 10 w), some (zi a), some (zi b)] [] G
  refine zs_loc 1 rfl (fun ha1 hb1 => ?_)
  refine zs_loc 2 rfl (fun ha2 hb2 => ?_)
  refine zs_aload_n (pc := 0) C dX9_fall_0 rfl ?_
  refine zs_iconst (pc := 1) C dX9_fall_1 (by decide) ?_
  refine zs_puti (r := 1002) (pc := 2) C dX9_fall_2 w_X9_178 f_10_2 rfl (r_1002 0) (by omega) ?_
  refine zs_aload_n (pc := 5) C dX9_fall_5 rfl ?_
  refine zs_iload_n (pc := 6) C dX9_fall_6 rfl ?_
  refine zVip1 (pc := 7) C dX9_fall_7 v_X9_398 (c_X9_isPerson hX ) (by decide) (by decide) ⟨Nat.zero_le _, Nat.zero_le _⟩ (Nat.le_of_ble_eq_true rfl) (fun x7 l7 u7 hp7 => ?_)
  have hq7 := hp7
  try simp only [zuI_1, zuI_2, zuJ_1, zuJ_2, zuJ_3, zuP_1, zuP_2, zuP_3, zuC_1, zuC_2, reduceIte, Nat.reduceEqDiff, false_and, and_false, true_and, and_true, and_self, or_true, true_or, or_false, false_or] at hq7
  refine zs_if_eq (tgt := 21) (pc := 10) C dX9_fall_10 (by decide) (fun h10 => ?_) (fun h10 => ?_)
  · skip
    refine zs_iconst (pc := 21) C dX9_fall_21 (by decide) ?_
    exact zs_iret (pc := 22) C hr hlk dX9_fall_22 ⟨by repeat (first | exact zsm_rf | assumption | refine zsm_C (by decide) ?_ | refine zsm_I (by decide) ?_ | refine zsm_J ?_ | refine zsm_c (by assumption) (by decide) ?_), trivial⟩
  · skip
    refine zs_aload_n (pc := 13) C dX9_fall_13 rfl ?_
    refine zs_iload_n (pc := 14) C dX9_fall_14 rfl ?_
    refine zVip1 (pc := 15) C dX9_fall_15 v_X9_407 (c_X9_isSin hX ) (by decide) (by decide) ⟨Nat.zero_le _, Nat.zero_le _⟩ (Nat.le_of_ble_eq_true rfl) (fun x15 l15 u15 hp15 => ?_)
    have hq15 := hp15
    try simp only [zuI_1, zuI_2, zuJ_1, zuJ_2, zuJ_3, zuP_1, zuP_2, zuP_3, zuC_1, zuC_2, reduceIte, Nat.reduceEqDiff, false_and, and_false, true_and, and_true, and_self, or_true, true_or, or_false, false_or] at hq15
    refine zs_if_ne (tgt := 23) (pc := 18) C dX9_fall_18 (by decide) (fun h18 => ?_) (fun h18 => ?_)
    · skip
      refine zs_aload_n (pc := 23) C dX9_fall_23 rfl ?_
      refine zs_getf (pc := 24) C dX9_fall_24 w_X9_88 f_10_51 (by decide) ?_
      refine zs_iconst (pc := 27) C dX9_fall_27 (by decide) ?_
      refine zs_iload_n (pc := 28) C dX9_fall_28 rfl ?_
      first | refine zs_imul (pc := 29) C dX9_fall_29 (by omega) ?_ | refine zs_imulF (pc := 29) C dX9_fall_29 (fun z29 hz291 hz292 => ?_)
      refine zs_iload_n (pc := 30) C dX9_fall_30 rfl ?_
      first | refine zs_iadd (pc := 31) C dX9_fall_31 (by omega) ?_ | refine zs_iaddF (pc := 31) C dX9_fall_31 (fun z31 hz311 hz312 => ?_)
      refine zs_iald (r := 2081) (pc := 32) C dX9_fall_32 a_81 (by decide) (by omega) rfl (r_2081 _) (fun v32 e32 l32 u32 => ?_)
      try simp only [zuI_1, zuI_2, zuJ_1, zuJ_2, zuJ_3, zuP_1, zuP_2, zuP_3, zuC_1, zuC_2, reduceIte, Nat.reduceEqDiff, false_and, and_false, true_and, and_true, and_self, or_true, true_or, or_false, false_or] at e32
      refine zs_bipush (pc := 33) C dX9_fall_33 (by decide) (by decide) ?_
      refine zs_icmp_lt (tgt := 41) (pc := 35) C dX9_fall_35 (by decide) (fun h35 => ?_) (fun h35 => ?_)
      · skip
        refine zs_aload_n (pc := 41) C dX9_fall_41 rfl ?_
        refine zVv0 (pc := 42) C dX9_fall_42 v_X9_442 (c_X9_remember hX ) (by decide) (by decide) ⟨Nat.zero_le _, Nat.zero_le _⟩ (Nat.le_of_ble_eq_true rfl) (fun G42 hp42 => ?_)
        obtain ⟨hz42, hq42⟩ := hp42
        try simp only [zuI_1, zuI_2, zuJ_1, zuJ_2, zuJ_3, zuP_1, zuP_2, zuP_3, zuC_1, zuC_2, reduceIte, Nat.reduceEqDiff, false_and, and_false, true_and, and_true, and_self, or_true, true_or, or_false, false_or] at hq42
        refine zs_aload_n (pc := 45) C dX9_fall_45 rfl ?_
        refine zs_getf (pc := 46) C dX9_fall_46 w_X9_88 f_10_51 (by decide) ?_
        refine zs_iconst (pc := 49) C dX9_fall_49 (by decide) ?_
        refine zs_iload_n (pc := 50) C dX9_fall_50 rfl ?_
        first | refine zs_imul (pc := 51) C dX9_fall_51 (by omega) ?_ | refine zs_imulF (pc := 51) C dX9_fall_51 (fun z51 hz511 hz512 => ?_)
        refine zs_iload_n (pc := 52) C dX9_fall_52 rfl ?_
        first | refine zs_iadd (pc := 53) C dX9_fall_53 (by omega) ?_ | refine zs_iaddF (pc := 53) C dX9_fall_53 (fun z53 hz531 hz532 => ?_)
        refine zs_dup2 (pc := 54) C dX9_fall_54 ?_
        refine zs_iald (r := 2081) (pc := 55) C dX9_fall_55 a_81 (by decide) (by omega) rfl (r_2081 _) (fun v55 e55 l55 u55 => ?_)
        refine zs_iconst (pc := 56) C dX9_fall_56 (by decide) ?_
        first | refine zs_iadd (pc := 57) C dX9_fall_57 (by omega) ?_ | refine zs_iaddF (pc := 57) C dX9_fall_57 (fun z57 hz571 hz572 => ?_)
        refine zs_iast (r := 2081) (pc := 58) C dX9_fall_58 a_81 (by decide) (by omega) rfl (r_2081 _) (by omega) ?_
        refine zs_aload_n (pc := 59) C dX9_fall_59 rfl ?_
        refine zs_getf (pc := 60) C dX9_fall_60 w_X9_100 f_10_55 (by decide) ?_
        refine zs_iload_n (pc := 63) C dX9_fall_63 rfl ?_
        refine zs_dup2 (pc := 64) C dX9_fall_64 ?_
        refine zs_iald (r := 2085) (pc := 65) C dX9_fall_65 a_85 (by decide) (by omega) rfl (r_2085 _) (fun v65 e65 l65 u65 => ?_)
        try simp only [zuI_1, zuI_2, zuJ_1, zuJ_2, zuJ_3, zuP_1, zuP_2, zuP_3, zuC_1, zuC_2, reduceIte, Nat.reduceEqDiff, false_and, and_false, true_and, and_true, and_self, or_true, true_or, or_false, false_or] at e65
        refine zs_iconst (pc := 66) C dX9_fall_66 (by decide) ?_
        first | refine zs_iadd (pc := 67) C dX9_fall_67 (by omega) ?_ | refine zs_iaddF (pc := 67) C dX9_fall_67 (fun z67 hz671 hz672 => ?_)
        refine zs_iast (r := 2085) (pc := 68) C dX9_fall_68 a_85 (by decide) (by omega) rfl (r_2085 _) (by omega) ?_
        refine zs_aload_n (pc := 69) C dX9_fall_69 rfl ?_
        refine zs_getf (pc := 70) C dX9_fall_70 w_X9_100 f_10_55 (by decide) ?_
        refine zs_iload_n (pc := 73) C dX9_fall_73 rfl ?_
        refine zs_iald (r := 2085) (pc := 74) C dX9_fall_74 a_85 (by decide) (by omega) rfl (r_2085 _) (fun v74 e74 l74 u74 => ?_)
        try simp only [zuI_1, zuI_2, zuJ_1, zuJ_2, zuJ_3, zuP_1, zuP_2, zuP_3, zuC_1, zuC_2, reduceIte, Nat.reduceEqDiff, false_and, and_false, true_and, and_true, and_self, or_true, true_or, or_false, false_or] at e74
        exact zs_iret (pc := 75) C hr hlk dX9_fall_75 ⟨by repeat (first | exact zsm_rf | assumption | refine zsm_C (by decide) ?_ | refine zsm_I (by decide) ?_ | refine zsm_J ?_ | refine zsm_c (by assumption) (by decide) ?_), trivial⟩
      · skip
        refine zs_bipush (pc := 38) C dX9_fall_38 (by decide) (by decide) ?_
        exact zs_iret (pc := 40) C hr hlk dX9_fall_40 ⟨by repeat (first | exact zsm_rf | assumption | refine zsm_C (by decide) ?_ | refine zsm_I (by decide) ?_ | refine zsm_J ?_ | refine zsm_c (by assumption) (by decide) ?_), trivial⟩
    · skip
      refine zs_iconst (pc := 21) C dX9_fall_21 (by decide) ?_
      exact zs_iret (pc := 22) C hr hlk dX9_fall_22 ⟨by repeat (first | exact zsm_rf | assumption | refine zsm_C (by decide) ?_ | refine zsm_I (by decide) ?_ | refine zsm_J ?_ | refine zsm_c (by assumption) (by decide) ?_), trivial⟩

set_option maxHeartbeats 4000000 in
set_option maxRecDepth 100000 in
theorem c_X9_sack {l : Launch} {Γ : zΓ} {G : zH} {w : Nat} {a b : Int} (hX : zXs Γ)  : zMet l Γ yX9_sack cX9_sack 3 (some .int) 0 [zr 10 w, zi a, zi b] G (zpi (fun x G' => zsm [1002] G G' ∧ True)) := by
  refine zMet_of RX9 hX (by decide) rfl (Nat.le_of_ble_eq_true rfl) ?_
  intro p e s m args below meth c C hr hlk
  show Z p l e (zrm 0) s m args below meth c Γ 3 0 0 (MQ below (zQc Γ (zpi (fun x G' => zsm [1002] G G' ∧ True))) args s 0 0 (zA Γ)) 0 [some (zr 10 w), some (zi a), some (zi b)] [] G
  refine zs_loc 1 rfl (fun ha1 hb1 => ?_)
  refine zs_loc 2 rfl (fun ha2 hb2 => ?_)
  refine zs_aload_n (pc := 0) C dX9_sack_0 rfl ?_
  refine zs_iconst (pc := 1) C dX9_sack_1 (by decide) ?_
  refine zs_puti (r := 1002) (pc := 2) C dX9_sack_2 w_X9_178 f_10_2 rfl (r_1002 0) (by omega) ?_
  refine zs_iload_n (pc := 5) C dX9_sack_5 rfl ?_
  refine zs_if_lt (tgt := 19) (pc := 6) C dX9_sack_6 (by decide) (fun h6 => ?_) (fun h6 => ?_)
  · skip
    refine zs_iconst (pc := 19) C dX9_sack_19 (by decide) ?_
    exact zs_iret (pc := 20) C hr hlk dX9_sack_20 ⟨by repeat (first | exact zsm_rf | assumption | refine zsm_C (by decide) ?_ | refine zsm_I (by decide) ?_ | refine zsm_J ?_ | refine zsm_c (by assumption) (by decide) ?_), trivial⟩
  · skip
    refine zs_iload_n (pc := 9) C dX9_sack_9 rfl ?_
    refine zs_aload_n (pc := 10) C dX9_sack_10 rfl ?_
    refine zs_getf (pc := 11) C dX9_sack_11 w_X9_106 f_10_57 (by decide) ?_
    refine zs_iconst (pc := 14) C dX9_sack_14 (by decide) ?_
    refine zs_iald (r := 2087) (pc := 15) C dX9_sack_15 a_87 (by decide) (by omega) rfl (r_2087 _) (fun v15 e15 l15 u15 => ?_)
    try simp only [zuI_1, zuI_2, zuJ_1, zuJ_2, zuJ_3, zuP_1, zuP_2, zuP_3, zuC_1, zuC_2, reduceIte, Nat.reduceEqDiff, false_and, and_false, true_and, and_true, and_self, or_true, true_or, or_false, false_or] at e15
    refine zs_icmp_lt (tgt := 21) (pc := 16) C dX9_sack_16 (by decide) (fun h16 => ?_) (fun h16 => ?_)
    · skip
      refine zs_iload_n (pc := 21) C dX9_sack_21 rfl ?_
      refine zs_name (fun y22 ey22 => ?_)
      rcases (show y22 = 0 ∨ y22 = 1 ∨ y22 = 2 ∨ y22 = 3 ∨ y22 = 4 ∨ (y22 < 0 ∨ 4 < y22) by omega) with h22 | h22 | h22 | h22 | h22 | h22
      · skip
        refine zs_tabIn (pc := 22) (tgt := 56) C 0 dX9_sack_22 h22 (by decide) rfl (by decide) ?_
        refine zs_aload_n (pc := 56) C dX9_sack_56 rfl ?_
        refine zs_getf (pc := 57) C dX9_sack_57 w_X9_118 f_10_62 (by decide) ?_
        refine zs_iload_n (pc := 60) C dX9_sack_60 rfl ?_
        refine zs_iald (r := 2091) (pc := 61) C dX9_sack_61 a_91 (by decide) (by omega) rfl (r_2091 _) (fun v61 e61 l61 u61 => ?_)
        try simp only [zuI_1, zuI_2, zuJ_1, zuJ_2, zuJ_3, zuP_1, zuP_2, zuP_3, zuC_1, zuC_2, reduceIte, Nat.reduceEqDiff, false_and, and_false, true_and, and_true, and_self, or_true, true_or, or_false, false_or] at e61
        exact zs_iret (pc := 62) C hr hlk dX9_sack_62 ⟨by repeat (first | exact zsm_rf | assumption | refine zsm_C (by decide) ?_ | refine zsm_I (by decide) ?_ | refine zsm_J ?_ | refine zsm_c (by assumption) (by decide) ?_), trivial⟩
      · skip
        refine zs_tabIn (pc := 22) (tgt := 63) C 1 dX9_sack_22 h22 (by decide) rfl (by decide) ?_
        refine zs_aload_n (pc := 63) C dX9_sack_63 rfl ?_
        refine zs_getf (pc := 64) C dX9_sack_64 w_X9_121 f_10_63 (by decide) ?_
        refine zs_iload_n (pc := 67) C dX9_sack_67 rfl ?_
        refine zs_iald (r := 2092) (pc := 68) C dX9_sack_68 a_92 (by decide) (by omega) rfl (r_2092 _) (fun v68 e68 l68 u68 => ?_)
        try simp only [zuI_1, zuI_2, zuJ_1, zuJ_2, zuJ_3, zuP_1, zuP_2, zuP_3, zuC_1, zuC_2, reduceIte, Nat.reduceEqDiff, false_and, and_false, true_and, and_true, and_self, or_true, true_or, or_false, false_or] at e68
        exact zs_iret (pc := 69) C hr hlk dX9_sack_69 ⟨by repeat (first | exact zsm_rf | assumption | refine zsm_C (by decide) ?_ | refine zsm_I (by decide) ?_ | refine zsm_J ?_ | refine zsm_c (by assumption) (by decide) ?_), trivial⟩
      · skip
        refine zs_tabIn (pc := 22) (tgt := 70) C 2 dX9_sack_22 h22 (by decide) rfl (by decide) ?_
        refine zs_aload_n (pc := 70) C dX9_sack_70 rfl ?_
        refine zs_getf (pc := 71) C dX9_sack_71 w_X9_124 f_10_64 (by decide) ?_
        refine zs_iload_n (pc := 74) C dX9_sack_74 rfl ?_
        refine zs_iald (r := 2093) (pc := 75) C dX9_sack_75 a_93 (by decide) (by omega) rfl (r_2093 _) (fun v75 e75 l75 u75 => ?_)
        try simp only [zuI_1, zuI_2, zuJ_1, zuJ_2, zuJ_3, zuP_1, zuP_2, zuP_3, zuC_1, zuC_2, reduceIte, Nat.reduceEqDiff, false_and, and_false, true_and, and_true, and_self, or_true, true_or, or_false, false_or] at e75
        exact zs_iret (pc := 76) C hr hlk dX9_sack_76 ⟨by repeat (first | exact zsm_rf | assumption | refine zsm_C (by decide) ?_ | refine zsm_I (by decide) ?_ | refine zsm_J ?_ | refine zsm_c (by assumption) (by decide) ?_), trivial⟩
      · skip
        refine zs_tabIn (pc := 22) (tgt := 77) C 3 dX9_sack_22 h22 (by decide) rfl (by decide) ?_
        refine zs_aload_n (pc := 77) C dX9_sack_77 rfl ?_
        refine zs_getf (pc := 78) C dX9_sack_78 w_X9_127 f_10_65 (by decide) ?_
        refine zs_iload_n (pc := 81) C dX9_sack_81 rfl ?_
        refine zs_iald (r := 2094) (pc := 82) C dX9_sack_82 a_94 (by decide) (by omega) rfl (r_2094 _) (fun v82 e82 l82 u82 => ?_)
        try simp only [zuI_1, zuI_2, zuJ_1, zuJ_2, zuJ_3, zuP_1, zuP_2, zuP_3, zuC_1, zuC_2, reduceIte, Nat.reduceEqDiff, false_and, and_false, true_and, and_true, and_self, or_true, true_or, or_false, false_or] at e82
        exact zs_iret (pc := 83) C hr hlk dX9_sack_83 ⟨by repeat (first | exact zsm_rf | assumption | refine zsm_C (by decide) ?_ | refine zsm_I (by decide) ?_ | refine zsm_J ?_ | refine zsm_c (by assumption) (by decide) ?_), trivial⟩
      · skip
        refine zs_tabIn (pc := 22) (tgt := 84) C 4 dX9_sack_22 h22 (by decide) rfl (by decide) ?_
        refine zs_aload_n (pc := 84) C dX9_sack_84 rfl ?_
        refine zs_getf (pc := 85) C dX9_sack_85 w_X9_130 f_10_66 (by decide) ?_
        refine zs_iload_n (pc := 88) C dX9_sack_88 rfl ?_
        refine zs_iald (r := 2095) (pc := 89) C dX9_sack_89 a_95 (by decide) (by omega) rfl (r_2095 _) (fun v89 e89 l89 u89 => ?_)
        try simp only [zuI_1, zuI_2, zuJ_1, zuJ_2, zuJ_3, zuP_1, zuP_2, zuP_3, zuC_1, zuC_2, reduceIte, Nat.reduceEqDiff, false_and, and_false, true_and, and_true, and_self, or_true, true_or, or_false, false_or] at e89
        exact zs_iret (pc := 90) C hr hlk dX9_sack_90 ⟨by repeat (first | exact zsm_rf | assumption | refine zsm_C (by decide) ?_ | refine zsm_I (by decide) ?_ | refine zsm_J ?_ | refine zsm_c (by assumption) (by decide) ?_), trivial⟩
      · skip
        refine zs_tabOut (tgt := 91) (pc := 22) C dX9_sack_22 h22 (by decide) ?_
        refine zs_iconst (pc := 91) C dX9_sack_91 (by decide) ?_
        exact zs_iret (pc := 92) C hr hlk dX9_sack_92 ⟨by repeat (first | exact zsm_rf | assumption | refine zsm_C (by decide) ?_ | refine zsm_I (by decide) ?_ | refine zsm_J ?_ | refine zsm_c (by assumption) (by decide) ?_), trivial⟩
    · skip
      refine zs_iconst (pc := 19) C dX9_sack_19 (by decide) ?_
      exact zs_iret (pc := 20) C hr hlk dX9_sack_20 ⟨by repeat (first | exact zsm_rf | assumption | refine zsm_C (by decide) ?_ | refine zsm_I (by decide) ?_ | refine zsm_J ?_ | refine zsm_c (by assumption) (by decide) ?_), trivial⟩

set_option maxHeartbeats 4000000 in
set_option maxRecDepth 100000 in
theorem c_X9_flour {l : Launch} {Γ : zΓ} {G : zH} {w : Nat} {a : Int} (hX : zXs Γ)  : zMet l Γ yX9_flour cX9_flour 2 (some .int) 2 [zr 10 w, zi a] G (zpi (fun x G' => zsm [1002] G G' ∧ True)) := by
  refine zMet_of RX9 hX (by decide) rfl (Nat.le_of_ble_eq_true rfl) ?_
  intro p e s m args below meth c C hr hlk
  show Z p l e (zrm 2) s m args below meth c Γ 2 0 0 (MQ below (zQc Γ (zpi (fun x G' => zsm [1002] G G' ∧ True))) args s 0 0 (zA Γ)) 0 [some (zr 10 w), some (zi a)] [] G
  refine zs_loc 1 rfl (fun ha1 hb1 => ?_)
  refine zs_aload_n (pc := 0) C dX9_flour_0 rfl ?_
  refine zs_iconst (pc := 1) C dX9_flour_1 (by decide) ?_
  refine zs_puti (r := 1002) (pc := 2) C dX9_flour_2 w_X9_178 f_10_2 rfl (r_1002 0) (by omega) ?_
  refine zs_iload_n (pc := 5) C dX9_flour_5 rfl ?_
  refine zSip1 (pc := 6) C dX9_flour_6 s_X9_465 (c_X9_isFine hX ) (by decide) ⟨Nat.zero_le _, Nat.zero_le _⟩ (Nat.le_of_ble_eq_true rfl) (fun x6 l6 u6 hp6 => ?_)
  have hq6 := hp6
  try simp only [zuI_1, zuI_2, zuJ_1, zuJ_2, zuJ_3, zuP_1, zuP_2, zuP_3, zuC_1, zuC_2, reduceIte, Nat.reduceEqDiff, false_and, and_false, true_and, and_true, and_self, or_true, true_or, or_false, false_or] at hq6
  refine zs_if_eq (tgt := 21) (pc := 9) C dX9_flour_9 (by decide) (fun h9 => ?_) (fun h9 => ?_)
  · skip
    refine zs_iconst (pc := 21) C dX9_flour_21 (by decide) ?_
    exact zs_iret (pc := 22) C hr hlk dX9_flour_22 ⟨by repeat (first | exact zsm_rf | assumption | refine zsm_C (by decide) ?_ | refine zsm_I (by decide) ?_ | refine zsm_J ?_ | refine zsm_c (by assumption) (by decide) ?_), trivial⟩
  · skip
    refine zs_aload_n (pc := 12) C dX9_flour_12 rfl ?_
    refine zs_iconst (pc := 13) C dX9_flour_13 (by decide) ?_
    refine zs_iload_n (pc := 14) C dX9_flour_14 rfl ?_
    refine zVip2 (pc := 15) C dX9_flour_15 v_X9_468 (c_X9_flourOf hX (by first | omega | (simp only [zuI_1, zuI_2, zuJ_1, zuJ_2, zuJ_3, zuP_1, zuP_2, zuP_3, zuC_1, zuC_2, reduceIte, Nat.reduceEqDiff, false_and, and_false, true_and, and_true, and_self, or_true, true_or, or_false, false_or]; omega))) (by decide) (by decide) ⟨Nat.zero_le _, Nat.zero_le _⟩ (Nat.le_of_ble_eq_true rfl) (fun x15 l15 u15 hp15 => ?_)
    have hq15 := hp15
    try simp only [zuI_1, zuI_2, zuJ_1, zuJ_2, zuJ_3, zuP_1, zuP_2, zuP_3, zuC_1, zuC_2, reduceIte, Nat.reduceEqDiff, false_and, and_false, true_and, and_true, and_self, or_true, true_or, or_false, false_or] at hq15
    refine zs_goto (tgt := 22) (pc := 18) C dX9_flour_18 (by decide) ?_
    exact zs_iret (pc := 22) C hr hlk dX9_flour_22 ⟨by repeat (first | exact zsm_rf | assumption | refine zsm_C (by decide) ?_ | refine zsm_I (by decide) ?_ | refine zsm_J ?_ | refine zsm_c (by assumption) (by decide) ?_), trivial⟩

set_option maxHeartbeats 4000000 in
set_option maxRecDepth 100000 in
theorem c_X9_bake {l : Launch} {Γ : zΓ} {G : zH} {w : Nat} {a : Int} (hX : zXs Γ)  : zMet l Γ yX9_bake cX9_bake 2 (some .boolean) 2 [zr 10 w, zi a] G (zpi (fun x G' => zsm [2105, 1084, 2094, 2086, 1073, 1002] G G' ∧ (x = 0 ∨ x = 1))) := by
  refine zMet_of RX9 hX (by decide) rfl (Nat.le_of_ble_eq_true rfl) ?_
  intro p e s m args below meth c C hr hlk
  show Z p l e (zrm 2) s m args below meth c Γ 2 0 0 (MQ below (zQc Γ (zpi (fun x G' => zsm [2105, 1084, 2094, 2086, 1073, 1002] G G' ∧ (x = 0 ∨ x = 1)))) args s 0 0 (zA Γ)) 0 [some (zr 10 w), some (zi a)] [] G
  refine zs_loc 1 rfl (fun ha1 hb1 => ?_)
  refine zs_aload_n (pc := 0) C dX9_bake_0 rfl ?_
  refine zs_iconst (pc := 1) C dX9_bake_1 (by decide) ?_
  refine zs_puti (r := 1002) (pc := 2) C dX9_bake_2 w_X9_178 f_10_2 rfl (r_1002 0) (by omega) ?_
  refine zs_aload_n (pc := 5) C dX9_bake_5 rfl ?_
  refine zs_iload_n (pc := 6) C dX9_bake_6 rfl ?_
  refine zVip1 (pc := 7) C dX9_bake_7 v_X9_471 (c_X9_isCake hX ) (by decide) (by decide) ⟨Nat.zero_le _, Nat.zero_le _⟩ (Nat.le_of_ble_eq_true rfl) (fun x7 l7 u7 hp7 => ?_)
  have hq7 := hp7
  try simp only [zuI_1, zuI_2, zuJ_1, zuJ_2, zuJ_3, zuP_1, zuP_2, zuP_3, zuC_1, zuC_2, reduceIte, Nat.reduceEqDiff, false_and, and_false, true_and, and_true, and_self, or_true, true_or, or_false, false_or] at hq7
  refine zs_if_eq (tgt := 22) (pc := 10) C dX9_bake_10 (by decide) (fun h10 => ?_) (fun h10 => ?_)
  · skip
    refine zs_iconst (pc := 22) C dX9_bake_22 (by decide) ?_
    exact zs_zret (pc := 23) C hr hlk dX9_bake_23 (by omega) ⟨by repeat (first | exact zsm_rf | assumption | refine zsm_C (by decide) ?_ | refine zsm_I (by decide) ?_ | refine zsm_J ?_ | refine zsm_c (by assumption) (by decide) ?_), by first | omega | (simp only [zuI_1, zuI_2, zuJ_1, zuJ_2, zuJ_3, zuP_1, zuP_2, zuP_3, zuC_1, zuC_2, reduceIte, Nat.reduceEqDiff, false_and, and_false, true_and, and_true, and_self, or_true, true_or, or_false, false_or]; omega)⟩
  · skip
    refine zs_aload_n (pc := 13) C dX9_bake_13 rfl ?_
    refine zs_iconst (pc := 14) C dX9_bake_14 (by decide) ?_
    refine zs_iload_n (pc := 15) C dX9_bake_15 rfl ?_
    refine zVip2 (pc := 16) C dX9_bake_16 v_X9_474 (c_X9_canBake hX (by first | omega | (simp only [zuI_1, zuI_2, zuJ_1, zuJ_2, zuJ_3, zuP_1, zuP_2, zuP_3, zuC_1, zuC_2, reduceIte, Nat.reduceEqDiff, false_and, and_false, true_and, and_true, and_self, or_true, true_or, or_false, false_or]; omega)) (by first | omega | (simp only [zuI_1, zuI_2, zuJ_1, zuJ_2, zuJ_3, zuP_1, zuP_2, zuP_3, zuC_1, zuC_2, reduceIte, Nat.reduceEqDiff, false_and, and_false, true_and, and_true, and_self, or_true, true_or, or_false, false_or]; omega))) (by decide) (by decide) ⟨Nat.zero_le _, Nat.zero_le _⟩ (Nat.le_of_ble_eq_true rfl) (fun x16 l16 u16 hp16 => ?_)
    have hq16 := hp16
    try simp only [zuI_1, zuI_2, zuJ_1, zuJ_2, zuJ_3, zuP_1, zuP_2, zuP_3, zuC_1, zuC_2, reduceIte, Nat.reduceEqDiff, false_and, and_false, true_and, and_true, and_self, or_true, true_or, or_false, false_or] at hq16
    refine zs_if_ne (tgt := 24) (pc := 19) C dX9_bake_19 (by decide) (fun h19 => ?_) (fun h19 => ?_)
    · skip
      refine zs_aload_n (pc := 24) C dX9_bake_24 rfl ?_
      refine zVv0 (pc := 25) C dX9_bake_25 v_X9_442 (c_X9_remember hX ) (by decide) (by decide) ⟨Nat.zero_le _, Nat.zero_le _⟩ (Nat.le_of_ble_eq_true rfl) (fun G25 hp25 => ?_)
      obtain ⟨hz25, hq25⟩ := hp25
      try simp only [zuI_1, zuI_2, zuJ_1, zuJ_2, zuJ_3, zuP_1, zuP_2, zuP_3, zuC_1, zuC_2, reduceIte, Nat.reduceEqDiff, false_and, and_false, true_and, and_true, and_self, or_true, true_or, or_false, false_or] at hq25
      have hf : G25.1 2068 (Γ.2.1 w 31) a.toNat ≤ zfl (G25.1 2093 (Γ.2.1 w 64)) (G25.1 2094 (Γ.2.1 w 65)) (G25.1 2067 (Γ.2.1 w 30) a.toNat) (60 * 0 : Int).toNat (G25.1 2087 (Γ.2.1 w 57) (0 : Int).toNat).toNat := by
        rw [hz25.1 2093 (by decide), hz25.1 2094 (by decide), hz25.1 2067 (by decide), hz25.1 2068 (by decide), hz25.1 2087 (by decide)]
        try simp only [zuI_1, zuI_2, zuJ_1, zuJ_2, zuJ_3, zuP_1, zuP_2, zuP_3, zuC_1, zuC_2, reduceIte, Nat.reduceEqDiff, false_and, and_false, true_and, and_true, and_self, or_true, true_or, or_false, false_or]
        omega
      refine zs_aload_n (pc := 28) C dX9_bake_28 rfl ?_
      refine zs_iconst (pc := 29) C dX9_bake_29 (by decide) ?_
      refine zs_iload_n (pc := 30) C dX9_bake_30 rfl ?_
      refine zVv2 (pc := 31) C dX9_bake_31 v_X9_477 (c_X9_bakes hX (by omega) (by omega) (by omega)) (by decide) (by decide) ⟨Nat.zero_le _, Nat.zero_le _⟩ (Nat.le_of_ble_eq_true rfl) (fun G31 hp31 => ?_)
      obtain ⟨hz31, hq31⟩ := hp31
      refine zs_iconst (pc := 34) C dX9_bake_34 (by decide) ?_
      exact zs_zret (pc := 35) C hr hlk dX9_bake_35 (by omega) ⟨by repeat (first | exact zsm_rf | assumption | refine zsm_C (by decide) ?_ | refine zsm_I (by decide) ?_ | refine zsm_J ?_ | refine zsm_c (by assumption) (by decide) ?_), by first | omega | (simp only [zuI_1, zuI_2, zuJ_1, zuJ_2, zuJ_3, zuP_1, zuP_2, zuP_3, zuC_1, zuC_2, reduceIte, Nat.reduceEqDiff, false_and, and_false, true_and, and_true, and_self, or_true, true_or, or_false, false_or]; omega)⟩
    · skip
      refine zs_iconst (pc := 22) C dX9_bake_22 (by decide) ?_
      exact zs_zret (pc := 23) C hr hlk dX9_bake_23 (by omega) ⟨by repeat (first | exact zsm_rf | assumption | refine zsm_C (by decide) ?_ | refine zsm_I (by decide) ?_ | refine zsm_J ?_ | refine zsm_c (by assumption) (by decide) ?_), by first | omega | (simp only [zuI_1, zuI_2, zuJ_1, zuJ_2, zuJ_3, zuP_1, zuP_2, zuP_3, zuC_1, zuC_2, reduceIte, Nat.reduceEqDiff, false_and, and_false, true_and, and_true, and_self, or_true, true_or, or_false, false_or]; omega)⟩

set_option maxHeartbeats 4000000 in
set_option maxRecDepth 100000 in
theorem c_X9_baked {l : Launch} {Γ : zΓ} {G : zH} {w : Nat} {a : Int} (hX : zXs Γ)  : zMet l Γ yX9_baked cX9_baked 2 (some .int) 1 [zr 10 w, zi a] G (zpi (fun x G' => zsm [1002] G G' ∧ True)) := by
  refine zMet_of RX9 hX (by decide) rfl (Nat.le_of_ble_eq_true rfl) ?_
  intro p e s m args below meth c C hr hlk
  show Z p l e (zrm 1) s m args below meth c Γ 2 0 0 (MQ below (zQc Γ (zpi (fun x G' => zsm [1002] G G' ∧ True))) args s 0 0 (zA Γ)) 0 [some (zr 10 w), some (zi a)] [] G
  refine zs_loc 1 rfl (fun ha1 hb1 => ?_)
  refine zs_aload_n (pc := 0) C dX9_baked_0 rfl ?_
  refine zs_iconst (pc := 1) C dX9_baked_1 (by decide) ?_
  refine zs_puti (r := 1002) (pc := 2) C dX9_baked_2 w_X9_178 f_10_2 rfl (r_1002 0) (by omega) ?_
  refine zs_aload_n (pc := 5) C dX9_baked_5 rfl ?_
  refine zs_iload_n (pc := 6) C dX9_baked_6 rfl ?_
  refine zVip1 (pc := 7) C dX9_baked_7 v_X9_471 (c_X9_isCake hX ) (by decide) (by decide) ⟨Nat.zero_le _, Nat.zero_le _⟩ (Nat.le_of_ble_eq_true rfl) (fun x7 l7 u7 hp7 => ?_)
  have hq7 := hp7
  try simp only [zuI_1, zuI_2, zuJ_1, zuJ_2, zuJ_3, zuP_1, zuP_2, zuP_3, zuC_1, zuC_2, reduceIte, Nat.reduceEqDiff, false_and, and_false, true_and, and_true, and_self, or_true, true_or, or_false, false_or] at hq7
  refine zs_if_eq (tgt := 22) (pc := 10) C dX9_baked_10 (by decide) (fun h10 => ?_) (fun h10 => ?_)
  · skip
    refine zs_iconst (pc := 22) C dX9_baked_22 (by decide) ?_
    exact zs_iret (pc := 23) C hr hlk dX9_baked_23 ⟨by repeat (first | exact zsm_rf | assumption | refine zsm_C (by decide) ?_ | refine zsm_I (by decide) ?_ | refine zsm_J ?_ | refine zsm_c (by assumption) (by decide) ?_), trivial⟩
  · skip
    refine zs_aload_n (pc := 13) C dX9_baked_13 rfl ?_
    refine zs_getf (pc := 14) C dX9_baked_14 w_X9_103 f_10_56 (by decide) ?_
    refine zs_iload_n (pc := 17) C dX9_baked_17 rfl ?_
    refine zs_iald (r := 2086) (pc := 18) C dX9_baked_18 a_86 (by decide) (by omega) rfl (r_2086 _) (fun v18 e18 l18 u18 => ?_)
    try simp only [zuI_1, zuI_2, zuJ_1, zuJ_2, zuJ_3, zuP_1, zuP_2, zuP_3, zuC_1, zuC_2, reduceIte, Nat.reduceEqDiff, false_and, and_false, true_and, and_true, and_self, or_true, true_or, or_false, false_or] at e18
    refine zs_goto (tgt := 23) (pc := 19) C dX9_baked_19 (by decide) ?_
    exact zs_iret (pc := 23) C hr hlk dX9_baked_23 ⟨by repeat (first | exact zsm_rf | assumption | refine zsm_C (by decide) ?_ | refine zsm_I (by decide) ?_ | refine zsm_J ?_ | refine zsm_c (by assumption) (by decide) ?_), trivial⟩

set_option maxHeartbeats 4000000 in
set_option maxRecDepth 100000 in
theorem c_X9_look {l : Launch} {Γ : zΓ} {G : zH} {w : Nat} {a b : Int} (hX : zXs Γ)  : zMet l Γ yX9_look cX9_look 3 (some .int) 2 [zr 10 w, zi a, zi b] G (zpi (fun x G' => zsm [1002] G G' ∧ True)) := by
  refine zMet_of RX9 hX (by decide) rfl (Nat.le_of_ble_eq_true rfl) ?_
  intro p e s m args below meth c C hr hlk
  show Z p l e (zrm 2) s m args below meth c Γ 3 0 0 (MQ below (zQc Γ (zpi (fun x G' => zsm [1002] G G' ∧ True))) args s 0 0 (zA Γ)) 0 [some (zr 10 w), some (zi a), some (zi b)] [] G
  refine zs_loc 1 rfl (fun ha1 hb1 => ?_)
  refine zs_loc 2 rfl (fun ha2 hb2 => ?_)
  refine zs_aload_n (pc := 0) C dX9_look_0 rfl ?_
  refine zs_iconst (pc := 1) C dX9_look_1 (by decide) ?_
  refine zs_puti (r := 1002) (pc := 2) C dX9_look_2 w_X9_178 f_10_2 rfl (r_1002 0) (by omega) ?_
  refine zs_aload_n (pc := 5) C dX9_look_5 rfl ?_
  refine zs_iload_n (pc := 6) C dX9_look_6 rfl ?_
  refine zVip1 (pc := 7) C dX9_look_7 v_X9_398 (c_X9_isPerson hX ) (by decide) (by decide) ⟨Nat.zero_le _, Nat.zero_le _⟩ (Nat.le_of_ble_eq_true rfl) (fun x7 l7 u7 hp7 => ?_)
  have hq7 := hp7
  try simp only [zuI_1, zuI_2, zuJ_1, zuJ_2, zuJ_3, zuP_1, zuP_2, zuP_3, zuC_1, zuC_2, reduceIte, Nat.reduceEqDiff, false_and, and_false, true_and, and_true, and_self, or_true, true_or, or_false, false_or] at hq7
  refine zs_if_ne (tgt := 19) (pc := 10) C dX9_look_10 (by decide) (fun h10 => ?_) (fun h10 => ?_)
  · skip
    refine zs_iload_n (pc := 19) C dX9_look_19 rfl ?_
    refine zs_name (fun y20 ey20 => ?_)
    rcases (show y20 = 0 ∨ y20 = 1 ∨ y20 = 2 ∨ y20 = 3 ∨ y20 = 4 ∨ (y20 < 0 ∨ 4 < y20) by omega) with h20 | h20 | h20 | h20 | h20 | h20
    · skip
      refine zs_tabIn (pc := 20) (tgt := 56) C 0 dX9_look_20 h20 (by decide) rfl (by decide) ?_
      refine zs_aload_n (pc := 56) C dX9_look_56 rfl ?_
      refine zs_getf (pc := 57) C dX9_look_57 w_X9_36 f_10_27 (by decide) ?_
      refine zs_iload_n (pc := 60) C dX9_look_60 rfl ?_
      refine zs_iald (r := 2064) (pc := 61) C dX9_look_61 a_64 (by decide) (by omega) rfl (r_2064 _) (fun v61 e61 l61 u61 => ?_)
      try simp only [zuI_1, zuI_2, zuJ_1, zuJ_2, zuJ_3, zuP_1, zuP_2, zuP_3, zuC_1, zuC_2, reduceIte, Nat.reduceEqDiff, false_and, and_false, true_and, and_true, and_self, or_true, true_or, or_false, false_or] at e61
      exact zs_iret (pc := 62) C hr hlk dX9_look_62 ⟨by repeat (first | exact zsm_rf | assumption | refine zsm_C (by decide) ?_ | refine zsm_I (by decide) ?_ | refine zsm_J ?_ | refine zsm_c (by assumption) (by decide) ?_), trivial⟩
    · skip
      refine zs_tabIn (pc := 20) (tgt := 63) C 1 dX9_look_20 h20 (by decide) rfl (by decide) ?_
      refine zs_aload_n (pc := 63) C dX9_look_63 rfl ?_
      refine zs_getf (pc := 64) C dX9_look_64 w_X9_94 f_10_53 (by decide) ?_
      refine zs_iload_n (pc := 67) C dX9_look_67 rfl ?_
      refine zs_iald (r := 2083) (pc := 68) C dX9_look_68 a_83 (by decide) (by omega) rfl (r_2083 _) (fun v68 e68 l68 u68 => ?_)
      try simp only [zuI_1, zuI_2, zuJ_1, zuJ_2, zuJ_3, zuP_1, zuP_2, zuP_3, zuC_1, zuC_2, reduceIte, Nat.reduceEqDiff, false_and, and_false, true_and, and_true, and_self, or_true, true_or, or_false, false_or] at e68
      exact zs_iret (pc := 69) C hr hlk dX9_look_69 ⟨by repeat (first | exact zsm_rf | assumption | refine zsm_C (by decide) ?_ | refine zsm_I (by decide) ?_ | refine zsm_J ?_ | refine zsm_c (by assumption) (by decide) ?_), trivial⟩
    · skip
      refine zs_tabIn (pc := 20) (tgt := 70) C 2 dX9_look_20 h20 (by decide) rfl (by decide) ?_
      refine zs_aload_n (pc := 70) C dX9_look_70 rfl ?_
      refine zs_getf (pc := 71) C dX9_look_71 w_X9_97 f_10_54 (by decide) ?_
      refine zs_iload_n (pc := 74) C dX9_look_74 rfl ?_
      refine zs_iald (r := 2084) (pc := 75) C dX9_look_75 a_84 (by decide) (by omega) rfl (r_2084 _) (fun v75 e75 l75 u75 => ?_)
      try simp only [zuI_1, zuI_2, zuJ_1, zuJ_2, zuJ_3, zuP_1, zuP_2, zuP_3, zuC_1, zuC_2, reduceIte, Nat.reduceEqDiff, false_and, and_false, true_and, and_true, and_self, or_true, true_or, or_false, false_or] at e75
      exact zs_iret (pc := 76) C hr hlk dX9_look_76 ⟨by repeat (first | exact zsm_rf | assumption | refine zsm_C (by decide) ?_ | refine zsm_I (by decide) ?_ | refine zsm_J ?_ | refine zsm_c (by assumption) (by decide) ?_), trivial⟩
    · skip
      refine zs_tabIn (pc := 20) (tgt := 77) C 3 dX9_look_20 h20 (by decide) rfl (by decide) ?_
      refine zs_aload_n (pc := 77) C dX9_look_77 rfl ?_
      refine zs_iconst (pc := 78) C dX9_look_78 (by decide) ?_
      refine zs_iload_n (pc := 79) C dX9_look_79 rfl ?_
      refine zVip2 (pc := 80) C dX9_look_80 v_X9_404 (c_X9_prideOf hX (by first | omega | (simp only [zuI_1, zuI_2, zuJ_1, zuJ_2, zuJ_3, zuP_1, zuP_2, zuP_3, zuC_1, zuC_2, reduceIte, Nat.reduceEqDiff, false_and, and_false, true_and, and_true, and_self, or_true, true_or, or_false, false_or]; omega)) (by first | omega | (simp only [zuI_1, zuI_2, zuJ_1, zuJ_2, zuJ_3, zuP_1, zuP_2, zuP_3, zuC_1, zuC_2, reduceIte, Nat.reduceEqDiff, false_and, and_false, true_and, and_true, and_self, or_true, true_or, or_false, false_or]; omega))) (by decide) (by decide) ⟨Nat.zero_le _, Nat.zero_le _⟩ (Nat.le_of_ble_eq_true rfl) (fun x80 l80 u80 hp80 => ?_)
      have hq80 := hp80
      try simp only [zuI_1, zuI_2, zuJ_1, zuJ_2, zuJ_3, zuP_1, zuP_2, zuP_3, zuC_1, zuC_2, reduceIte, Nat.reduceEqDiff, false_and, and_false, true_and, and_true, and_self, or_true, true_or, or_false, false_or] at hq80
      exact zs_iret (pc := 83) C hr hlk dX9_look_83 ⟨by repeat (first | exact zsm_rf | assumption | refine zsm_C (by decide) ?_ | refine zsm_I (by decide) ?_ | refine zsm_J ?_ | refine zsm_c (by assumption) (by decide) ?_), trivial⟩
    · skip
      refine zs_tabIn (pc := 20) (tgt := 84) C 4 dX9_look_20 h20 (by decide) rfl (by decide) ?_
      refine zs_aload_n (pc := 84) C dX9_look_84 rfl ?_
      refine zs_getf (pc := 85) C dX9_look_85 w_X9_100 f_10_55 (by decide) ?_
      refine zs_iload_n (pc := 88) C dX9_look_88 rfl ?_
      refine zs_iald (r := 2085) (pc := 89) C dX9_look_89 a_85 (by decide) (by omega) rfl (r_2085 _) (fun v89 e89 l89 u89 => ?_)
      try simp only [zuI_1, zuI_2, zuJ_1, zuJ_2, zuJ_3, zuP_1, zuP_2, zuP_3, zuC_1, zuC_2, reduceIte, Nat.reduceEqDiff, false_and, and_false, true_and, and_true, and_self, or_true, true_or, or_false, false_or] at e89
      exact zs_iret (pc := 90) C hr hlk dX9_look_90 ⟨by repeat (first | exact zsm_rf | assumption | refine zsm_C (by decide) ?_ | refine zsm_I (by decide) ?_ | refine zsm_J ?_ | refine zsm_c (by assumption) (by decide) ?_), trivial⟩
    · skip
      refine zs_tabOut (tgt := 91) (pc := 20) C dX9_look_20 h20 (by decide) ?_
      refine zs_aload_n (pc := 91) C dX9_look_91 rfl ?_
      refine zs_iconst (pc := 92) C dX9_look_92 (by decide) ?_
      refine zVi1 (pc := 93) C dX9_look_93 v_X9_401 (c_X9_fails hX ) (by decide) (by decide) ⟨Nat.zero_le _, Nat.zero_le _⟩ (Nat.le_of_ble_eq_true rfl) (fun x93 G93 l93 u93 hp93 => ?_)
      obtain ⟨hz93, hq93⟩ := hp93
      try simp only [zuI_1, zuI_2, zuJ_1, zuJ_2, zuJ_3, zuP_1, zuP_2, zuP_3, zuC_1, zuC_2, reduceIte, Nat.reduceEqDiff, false_and, and_false, true_and, and_true, and_self, or_true, true_or, or_false, false_or] at hq93
      exact zs_iret (pc := 96) C hr hlk dX9_look_96 ⟨by repeat (first | exact zsm_rf | assumption | refine zsm_C (by decide) ?_ | refine zsm_I (by decide) ?_ | refine zsm_J ?_ | refine zsm_c (by assumption) (by decide) ?_), trivial⟩
  · skip
    refine zs_aload_n (pc := 13) C dX9_look_13 rfl ?_
    refine zs_iconst (pc := 14) C dX9_look_14 (by decide) ?_
    refine zVi1 (pc := 15) C dX9_look_15 v_X9_401 (c_X9_fails hX ) (by decide) (by decide) ⟨Nat.zero_le _, Nat.zero_le _⟩ (Nat.le_of_ble_eq_true rfl) (fun x15 G15 l15 u15 hp15 => ?_)
    obtain ⟨hz15, hq15⟩ := hp15
    try simp only [zuI_1, zuI_2, zuJ_1, zuJ_2, zuJ_3, zuP_1, zuP_2, zuP_3, zuC_1, zuC_2, reduceIte, Nat.reduceEqDiff, false_and, and_false, true_and, and_true, and_self, or_true, true_or, or_false, false_or] at hq15
    exact zs_iret (pc := 18) C hr hlk dX9_look_18 ⟨by repeat (first | exact zsm_rf | assumption | refine zsm_C (by decide) ?_ | refine zsm_I (by decide) ?_ | refine zsm_J ?_ | refine zsm_c (by assumption) (by decide) ?_), trivial⟩

set_option maxHeartbeats 4000000 in
set_option maxRecDepth 100000 in
theorem c_X9_did {l : Launch} {Γ : zΓ} {G : zH} {w : Nat} {a b k : Int} (hX : zXs Γ)  : zMet l Γ yX9_did cX9_did 4 (some .int) 1 [zr 10 w, zi a, zi b, zi k] G (zpi (fun x G' => zsm [1002] G G' ∧ True)) := by
  refine zMet_of RX9 hX (by decide) rfl (Nat.le_of_ble_eq_true rfl) ?_
  intro p e s m args below meth c C hr hlk
  show Z p l e (zrm 1) s m args below meth c Γ 4 0 0 (MQ below (zQc Γ (zpi (fun x G' => zsm [1002] G G' ∧ True))) args s 0 0 (zA Γ)) 0 [some (zr 10 w), some (zi a), some (zi b), some (zi k)] [] G
  refine zs_loc 1 rfl (fun ha1 hb1 => ?_)
  refine zs_loc 2 rfl (fun ha2 hb2 => ?_)
  refine zs_loc 3 rfl (fun ha3 hb3 => ?_)
  refine zs_aload_n (pc := 0) C dX9_did_0 rfl ?_
  refine zs_iconst (pc := 1) C dX9_did_1 (by decide) ?_
  refine zs_puti (r := 1002) (pc := 2) C dX9_did_2 w_X9_178 f_10_2 rfl (r_1002 0) (by omega) ?_
  refine zs_aload_n (pc := 5) C dX9_did_5 rfl ?_
  refine zs_iload_n (pc := 6) C dX9_did_6 rfl ?_
  refine zVip1 (pc := 7) C dX9_did_7 v_X9_398 (c_X9_isPerson hX ) (by decide) (by decide) ⟨Nat.zero_le _, Nat.zero_le _⟩ (Nat.le_of_ble_eq_true rfl) (fun x7 l7 u7 hp7 => ?_)
  have hq7 := hp7
  try simp only [zuI_1, zuI_2, zuJ_1, zuJ_2, zuJ_3, zuP_1, zuP_2, zuP_3, zuC_1, zuC_2, reduceIte, Nat.reduceEqDiff, false_and, and_false, true_and, and_true, and_self, or_true, true_or, or_false, false_or] at hq7
  refine zs_if_eq (tgt := 21) (pc := 10) C dX9_did_10 (by decide) (fun h10 => ?_) (fun h10 => ?_)
  · skip
    refine zs_iconst (pc := 21) C dX9_did_21 (by decide) ?_
    exact zs_iret (pc := 22) C hr hlk dX9_did_22 ⟨by repeat (first | exact zsm_rf | assumption | refine zsm_C (by decide) ?_ | refine zsm_I (by decide) ?_ | refine zsm_J ?_ | refine zsm_c (by assumption) (by decide) ?_), trivial⟩
  · skip
    refine zs_aload_n (pc := 13) C dX9_did_13 rfl ?_
    refine zs_iload_n (pc := 14) C dX9_did_14 rfl ?_
    refine zVip1 (pc := 15) C dX9_did_15 v_X9_407 (c_X9_isSin hX ) (by decide) (by decide) ⟨Nat.zero_le _, Nat.zero_le _⟩ (Nat.le_of_ble_eq_true rfl) (fun x15 l15 u15 hp15 => ?_)
    have hq15 := hp15
    try simp only [zuI_1, zuI_2, zuJ_1, zuJ_2, zuJ_3, zuP_1, zuP_2, zuP_3, zuC_1, zuC_2, reduceIte, Nat.reduceEqDiff, false_and, and_false, true_and, and_true, and_self, or_true, true_or, or_false, false_or] at hq15
    refine zs_if_ne (tgt := 23) (pc := 18) C dX9_did_18 (by decide) (fun h18 => ?_) (fun h18 => ?_)
    · skip
      refine zs_iload_n (pc := 23) C dX9_did_23 rfl ?_
      refine zs_if_ne (tgt := 40) (pc := 24) C dX9_did_24 (by decide) (fun h24 => ?_) (fun h24 => ?_)
      · skip
        refine zs_iload_n (pc := 40) C dX9_did_40 rfl ?_
        refine zs_iconst (pc := 41) C dX9_did_41 (by decide) ?_
        refine zs_icmp_ne (tgt := 55) (pc := 42) C dX9_did_42 (by decide) (fun h42 => ?_) (fun h42 => ?_)
        · skip
          refine zs_iconst (pc := 55) C dX9_did_55 (by decide) ?_
          exact zs_iret (pc := 56) C hr hlk dX9_did_56 ⟨by repeat (first | exact zsm_rf | assumption | refine zsm_C (by decide) ?_ | refine zsm_I (by decide) ?_ | refine zsm_J ?_ | refine zsm_c (by assumption) (by decide) ?_), trivial⟩
        · skip
          refine zs_aload_n (pc := 45) C dX9_did_45 rfl ?_
          refine zs_iconst (pc := 46) C dX9_did_46 (by decide) ?_
          refine zs_iload_n (pc := 47) C dX9_did_47 rfl ?_
          refine zs_iload_n (pc := 48) C dX9_did_48 rfl ?_
          refine zVip3 (pc := 49) C dX9_did_49 v_X9_394 (c_X9_leftOf hX (by first | omega | (simp only [zuI_1, zuI_2, zuJ_1, zuJ_2, zuJ_3, zuP_1, zuP_2, zuP_3, zuC_1, zuC_2, reduceIte, Nat.reduceEqDiff, false_and, and_false, true_and, and_true, and_self, or_true, true_or, or_false, false_or]; omega)) (by first | omega | (simp only [zuI_1, zuI_2, zuJ_1, zuJ_2, zuJ_3, zuP_1, zuP_2, zuP_3, zuC_1, zuC_2, reduceIte, Nat.reduceEqDiff, false_and, and_false, true_and, and_true, and_self, or_true, true_or, or_false, false_or]; omega)) (by first | omega | (simp only [zuI_1, zuI_2, zuJ_1, zuJ_2, zuJ_3, zuP_1, zuP_2, zuP_3, zuC_1, zuC_2, reduceIte, Nat.reduceEqDiff, false_and, and_false, true_and, and_true, and_self, or_true, true_or, or_false, false_or]; omega))) (by decide) (by decide) ⟨Nat.zero_le _, Nat.zero_le _⟩ (Nat.le_of_ble_eq_true rfl) (fun x49 l49 u49 hp49 => ?_)
          have hq49 := hp49
          try simp only [zuI_1, zuI_2, zuJ_1, zuJ_2, zuJ_3, zuP_1, zuP_2, zuP_3, zuC_1, zuC_2, reduceIte, Nat.reduceEqDiff, false_and, and_false, true_and, and_true, and_self, or_true, true_or, or_false, false_or] at hq49
          refine zs_goto (tgt := 56) (pc := 52) C dX9_did_52 (by decide) ?_
          exact zs_iret (pc := 56) C hr hlk dX9_did_56 ⟨by repeat (first | exact zsm_rf | assumption | refine zsm_C (by decide) ?_ | refine zsm_I (by decide) ?_ | refine zsm_J ?_ | refine zsm_c (by assumption) (by decide) ?_), trivial⟩
      · skip
        refine zs_aload_n (pc := 27) C dX9_did_27 rfl ?_
        refine zs_getf (pc := 28) C dX9_did_28 w_X9_88 f_10_51 (by decide) ?_
        refine zs_iconst (pc := 31) C dX9_did_31 (by decide) ?_
        refine zs_iload_n (pc := 32) C dX9_did_32 rfl ?_
        first | refine zs_imul (pc := 33) C dX9_did_33 (by omega) ?_ | refine zs_imulF (pc := 33) C dX9_did_33 (fun z33 hz331 hz332 => ?_)
        refine zs_iload_n (pc := 34) C dX9_did_34 rfl ?_
        first | refine zs_iadd (pc := 35) C dX9_did_35 (by omega) ?_ | refine zs_iaddF (pc := 35) C dX9_did_35 (fun z35 hz351 hz352 => ?_)
        refine zs_iald (r := 2081) (pc := 36) C dX9_did_36 a_81 (by decide) (by omega) rfl (r_2081 _) (fun v36 e36 l36 u36 => ?_)
        try simp only [zuI_1, zuI_2, zuJ_1, zuJ_2, zuJ_3, zuP_1, zuP_2, zuP_3, zuC_1, zuC_2, reduceIte, Nat.reduceEqDiff, false_and, and_false, true_and, and_true, and_self, or_true, true_or, or_false, false_or] at e36
        refine zs_goto (tgt := 56) (pc := 37) C dX9_did_37 (by decide) ?_
        exact zs_iret (pc := 56) C hr hlk dX9_did_56 ⟨by repeat (first | exact zsm_rf | assumption | refine zsm_C (by decide) ?_ | refine zsm_I (by decide) ?_ | refine zsm_J ?_ | refine zsm_c (by assumption) (by decide) ?_), trivial⟩
    · skip
      refine zs_iconst (pc := 21) C dX9_did_21 (by decide) ?_
      exact zs_iret (pc := 22) C hr hlk dX9_did_22 ⟨by repeat (first | exact zsm_rf | assumption | refine zsm_C (by decide) ?_ | refine zsm_I (by decide) ?_ | refine zsm_J ?_ | refine zsm_c (by assumption) (by decide) ?_), trivial⟩

set_option maxHeartbeats 4000000 in
set_option maxRecDepth 100000 in
theorem c_X9_fine {l : Launch} {Γ : zΓ} {G : zH} {w : Nat} {a b : Int} (hX : zXs Γ) (hM : MI Γ w G) : zMet l Γ yX9_fine cX9_fine 3 (some .int) 5 [zr 10 w, zi a, zi b] G (zpi (fun x G' => zsm [1002, 1050] G G' ∧ True)) := by
  refine zMet_of RX9 hX (by decide) rfl (Nat.le_of_ble_eq_true rfl) ?_
  intro p e s m args below meth c C hr hlk
  show Z p l e (zrm 5) s m args below meth c Γ 3 0 0 (MQ below (zQc Γ (zpi (fun x G' => zsm [1002, 1050] G G' ∧ True))) args s 0 0 (zA Γ)) 0 [some (zr 10 w), some (zi a), some (zi b)] [] G
  refine zs_loc 1 rfl (fun ha1 hb1 => ?_)
  refine zs_loc 2 rfl (fun ha2 hb2 => ?_)
  refine zs_aload_n (pc := 0) C dX9_fine_0 rfl ?_
  refine zs_iconst (pc := 1) C dX9_fine_1 (by decide) ?_
  refine zs_puti (r := 1002) (pc := 2) C dX9_fine_2 w_X9_178 f_10_2 rfl (r_1002 0) (by omega) ?_
  refine zs_aload_n (pc := 5) C dX9_fine_5 rfl ?_
  refine zs_iload_n (pc := 6) C dX9_fine_6 rfl ?_
  refine zVip1 (pc := 7) C dX9_fine_7 v_X9_398 (c_X9_isPerson hX ) (by decide) (by decide) ⟨Nat.zero_le _, Nat.zero_le _⟩ (Nat.le_of_ble_eq_true rfl) (fun x7 l7 u7 hp7 => ?_)
  have hq7 := hp7
  try simp only [zuI_1, zuI_2, zuJ_1, zuJ_2, zuJ_3, zuP_1, zuP_2, zuP_3, zuC_1, zuC_2, reduceIte, Nat.reduceEqDiff, false_and, and_false, true_and, and_true, and_self, or_true, true_or, or_false, false_or] at hq7
  refine zs_if_eq (tgt := 31) (pc := 10) C dX9_fine_10 (by decide) (fun h10 => ?_) (fun h10 => ?_)
  · skip
    refine zs_iconst (pc := 31) C dX9_fine_31 (by decide) ?_
    exact zs_iret (pc := 32) C hr hlk dX9_fine_32 ⟨by repeat (first | exact zsm_rf | assumption | refine zsm_C (by decide) ?_ | refine zsm_I (by decide) ?_ | refine zsm_J ?_ | refine zsm_c (by assumption) (by decide) ?_), trivial⟩
  · skip
    refine zs_aload_n (pc := 13) C dX9_fine_13 rfl ?_
    refine zs_iload_n (pc := 14) C dX9_fine_14 rfl ?_
    refine zVip1 (pc := 15) C dX9_fine_15 v_X9_407 (c_X9_isSin hX ) (by decide) (by decide) ⟨Nat.zero_le _, Nat.zero_le _⟩ (Nat.le_of_ble_eq_true rfl) (fun x15 l15 u15 hp15 => ?_)
    have hq15 := hp15
    try simp only [zuI_1, zuI_2, zuJ_1, zuJ_2, zuJ_3, zuP_1, zuP_2, zuP_3, zuC_1, zuC_2, reduceIte, Nat.reduceEqDiff, false_and, and_false, true_and, and_true, and_self, or_true, true_or, or_false, false_or] at hq15
    refine zs_if_eq (tgt := 31) (pc := 18) C dX9_fine_18 (by decide) (fun h18 => ?_) (fun h18 => ?_)
    · skip
      refine zs_iconst (pc := 31) C dX9_fine_31 (by decide) ?_
      exact zs_iret (pc := 32) C hr hlk dX9_fine_32 ⟨by repeat (first | exact zsm_rf | assumption | refine zsm_C (by decide) ?_ | refine zsm_I (by decide) ?_ | refine zsm_J ?_ | refine zsm_c (by assumption) (by decide) ?_), trivial⟩
    · skip
      refine zs_aload_n (pc := 21) C dX9_fine_21 rfl ?_
      refine zs_iconst (pc := 22) C dX9_fine_22 (by decide) ?_
      refine zs_iload_n (pc := 23) C dX9_fine_23 rfl ?_
      refine zs_iload_n (pc := 24) C dX9_fine_24 rfl ?_
      refine zVi3 (pc := 25) C dX9_fine_25 v_X9_427 (c_X9_fineOf hX (by repeat (first | assumption | refine MI_I (by decide) ?_ | refine MI_J ?_ | refine MI_sm (by assumption) (by decide) ?_ | refine MI_sn (by assumption) (by decide) ?_)) (by first | omega | (simp only [zuI_1, zuI_2, zuJ_1, zuJ_2, zuJ_3, zuP_1, zuP_2, zuP_3, zuC_1, zuC_2, reduceIte, Nat.reduceEqDiff, false_and, and_false, true_and, and_true, and_self, or_true, true_or, or_false, false_or]; omega)) (by first | omega | (simp only [zuI_1, zuI_2, zuJ_1, zuJ_2, zuJ_3, zuP_1, zuP_2, zuP_3, zuC_1, zuC_2, reduceIte, Nat.reduceEqDiff, false_and, and_false, true_and, and_true, and_self, or_true, true_or, or_false, false_or]; omega)) (by first | omega | (simp only [zuI_1, zuI_2, zuJ_1, zuJ_2, zuJ_3, zuP_1, zuP_2, zuP_3, zuC_1, zuC_2, reduceIte, Nat.reduceEqDiff, false_and, and_false, true_and, and_true, and_self, or_true, true_or, or_false, false_or]; omega))) (by decide) (by decide) ⟨Nat.zero_le _, Nat.zero_le _⟩ (Nat.le_of_ble_eq_true rfl) (fun x25 G25 l25 u25 hp25 => ?_)
      obtain ⟨hz25, hq25⟩ := hp25
      try simp only [zuI_1, zuI_2, zuJ_1, zuJ_2, zuJ_3, zuP_1, zuP_2, zuP_3, zuC_1, zuC_2, reduceIte, Nat.reduceEqDiff, false_and, and_false, true_and, and_true, and_self, or_true, true_or, or_false, false_or] at hq25
      refine zs_goto (tgt := 32) (pc := 28) C dX9_fine_28 (by decide) ?_
      exact zs_iret (pc := 32) C hr hlk dX9_fine_32 ⟨by repeat (first | exact zsm_rf | assumption | refine zsm_C (by decide) ?_ | refine zsm_I (by decide) ?_ | refine zsm_J ?_ | refine zsm_c (by assumption) (by decide) ?_), trivial⟩

set_option maxHeartbeats 4000000 in
set_option maxRecDepth 100000 in
theorem c_X9_law {l : Launch} {Γ : zΓ} {G : zH} {w : Nat} {k a b : Int} (hX : zXs Γ) (hM : MI Γ w G) : zMet l Γ yX9_law cX9_law 6 (some .long) 3 [zr 10 w, zi k, zi a, zi b] G (zpj (fun x G' => zsm [1002, 1050] G G' ∧ True)) := by
  refine zMet_of RX9 hX (by decide) rfl (Nat.le_of_ble_eq_true rfl) ?_
  intro p e s m args below meth c C hr hlk
  show Z p l e (zrm 3) s m args below meth c Γ 6 0 0 (MQ below (zQc Γ (zpj (fun x G' => zsm [1002, 1050] G G' ∧ True))) args s 0 0 (zA Γ)) 0 [some (zr 10 w), some (zi k), some (zi a), some (zi b), none, none] [] G
  refine zs_loc 1 rfl (fun ha1 hb1 => ?_)
  refine zs_loc 2 rfl (fun ha2 hb2 => ?_)
  refine zs_loc 3 rfl (fun ha3 hb3 => ?_)
  refine zs_aload_n (pc := 0) C dX9_law_0 rfl ?_
  refine zs_iconst (pc := 1) C dX9_law_1 (by decide) ?_
  refine zs_puti (r := 1002) (pc := 2) C dX9_law_2 w_X9_178 f_10_2 rfl (r_1002 0) (by omega) ?_
  refine zs_iload_n (pc := 5) C dX9_law_5 rfl ?_
  refine zs_iconst (pc := 6) C dX9_law_6 (by decide) ?_
  refine zs_iconst (pc := 7) C dX9_law_7 (by decide) ?_
  refine zSip3 (pc := 8) C dX9_law_8 s_X9_223 (c_X9_isIn hX ) (by decide) ⟨Nat.zero_le _, Nat.zero_le _⟩ (Nat.le_of_ble_eq_true rfl) (fun x8 l8 u8 hp8 => ?_)
  have hq8 := hp8
  try simp only [zuI_1, zuI_2, zuJ_1, zuJ_2, zuJ_3, zuP_1, zuP_2, zuP_3, zuC_1, zuC_2, reduceIte, Nat.reduceEqDiff, false_and, and_false, true_and, and_true, and_self, or_true, true_or, or_false, false_or] at hq8
  refine zs_if_eq (tgt := 31) (pc := 11) C dX9_law_11 (by decide) (fun h11 => ?_) (fun h11 => ?_)
  · skip
    refine zs_ldc2 (n := -9223372036854775808) (pc := 31) C dX9_law_31 q_X9_433 (by decide) (by decide) ?_
    exact zs_lret (pc := 34) C hr hlk dX9_law_34 ⟨by repeat (first | exact zsm_rf | assumption | refine zsm_C (by decide) ?_ | refine zsm_I (by decide) ?_ | refine zsm_J ?_ | refine zsm_c (by assumption) (by decide) ?_), trivial⟩
  · skip
    refine zs_aload_n (pc := 14) C dX9_law_14 rfl ?_
    refine zs_getf (pc := 15) C dX9_law_15 w_X9_57 f_10_34 (by decide) ?_
    refine zs_iload_n (pc := 18) C dX9_law_18 rfl ?_
    refine zs_zald (r := 2071) (pc := 19) C dX9_law_19 a_71 (by decide) (by omega) rfl (r_2071 _) (fun v19 e19 l19 u19 => ?_)
    try simp only [zuI_1, zuI_2, zuJ_1, zuJ_2, zuJ_3, zuP_1, zuP_2, zuP_3, zuC_1, zuC_2, reduceIte, Nat.reduceEqDiff, false_and, and_false, true_and, and_true, and_self, or_true, true_or, or_false, false_or] at e19
    refine zs_if_eq (tgt := 31) (pc := 20) C dX9_law_20 (by decide) (fun h20 => ?_) (fun h20 => ?_)
    · skip
      refine zs_ldc2 (n := -9223372036854775808) (pc := 31) C dX9_law_31 q_X9_433 (by decide) (by decide) ?_
      exact zs_lret (pc := 34) C hr hlk dX9_law_34 ⟨by repeat (first | exact zsm_rf | assumption | refine zsm_C (by decide) ?_ | refine zsm_I (by decide) ?_ | refine zsm_J ?_ | refine zsm_c (by assumption) (by decide) ?_), trivial⟩
    · skip
      refine zs_aload_n (pc := 23) C dX9_law_23 rfl ?_
      refine zs_iload_n (pc := 24) C dX9_law_24 rfl ?_
      refine zVip1 (pc := 25) C dX9_law_25 v_X9_398 (c_X9_isPerson hX ) (by decide) (by decide) ⟨Nat.zero_le _, Nat.zero_le _⟩ (Nat.le_of_ble_eq_true rfl) (fun x25 l25 u25 hp25 => ?_)
      have hq25 := hp25
      try simp only [zuI_1, zuI_2, zuJ_1, zuJ_2, zuJ_3, zuP_1, zuP_2, zuP_3, zuC_1, zuC_2, reduceIte, Nat.reduceEqDiff, false_and, and_false, true_and, and_true, and_self, or_true, true_or, or_false, false_or] at hq25
      refine zs_if_ne (tgt := 35) (pc := 28) C dX9_law_28 (by decide) (fun h28 => ?_) (fun h28 => ?_)
      · skip
        refine zs_iload_n (pc := 35) C dX9_law_35 rfl ?_
        refine zs_iconst (pc := 36) C dX9_law_36 (by decide) ?_
        refine zs_icmp_ne (tgt := 66) (pc := 37) C dX9_law_37 (by decide) (fun h37 => ?_) (fun h37 => ?_)
        · skip
          refine zs_aload_n (pc := 66) C dX9_law_66 rfl ?_
          refine zs_iload_n (pc := 67) C dX9_law_67 rfl ?_
          refine zVip1 (pc := 68) C dX9_law_68 v_X9_407 (c_X9_isSin hX ) (by decide) (by decide) ⟨Nat.zero_le _, Nat.zero_le _⟩ (Nat.le_of_ble_eq_true rfl) (fun x68 l68 u68 hp68 => ?_)
          have hq68 := hp68
          try simp only [zuI_1, zuI_2, zuJ_1, zuJ_2, zuJ_3, zuP_1, zuP_2, zuP_3, zuC_1, zuC_2, reduceIte, Nat.reduceEqDiff, false_and, and_false, true_and, and_true, and_self, or_true, true_or, or_false, false_or] at hq68
          refine zs_if_eq (tgt := 89) (pc := 71) C dX9_law_71 (by decide) (fun h71 => ?_) (fun h71 => ?_)
          · skip
            refine zs_ldc2 (n := -9223372036854775808) (pc := 89) C dX9_law_89 q_X9_433 (by decide) (by decide) ?_
            exact zs_lret (pc := 92) C hr hlk dX9_law_92 ⟨by repeat (first | exact zsm_rf | assumption | refine zsm_C (by decide) ?_ | refine zsm_I (by decide) ?_ | refine zsm_J ?_ | refine zsm_c (by assumption) (by decide) ?_), trivial⟩
          · skip
            refine zs_iload_n (pc := 74) C dX9_law_74 rfl ?_
            refine zs_iconst (pc := 75) C dX9_law_75 (by decide) ?_
            refine zs_icmp_ne (tgt := 93) (pc := 76) C dX9_law_76 (by decide) (fun h76 => ?_) (fun h76 => ?_)
            · skip
              refine zs_aload_n (pc := 93) C dX9_law_93 rfl ?_
              refine zs_iconst (pc := 94) C dX9_law_94 (by decide) ?_
              refine zs_iload_n (pc := 95) C dX9_law_95 rfl ?_
              refine zs_iload_n (pc := 96) C dX9_law_96 rfl ?_
              refine zVv3 (pc := 97) C dX9_law_97 v_X9_421 (c_X9_layOf hX (by first | omega | (simp only [zuI_1, zuI_2, zuJ_1, zuJ_2, zuJ_3, zuP_1, zuP_2, zuP_3, zuC_1, zuC_2, reduceIte, Nat.reduceEqDiff, false_and, and_false, true_and, and_true, and_self, or_true, true_or, or_false, false_or]; omega)) (by first | omega | (simp only [zuI_1, zuI_2, zuJ_1, zuJ_2, zuJ_3, zuP_1, zuP_2, zuP_3, zuC_1, zuC_2, reduceIte, Nat.reduceEqDiff, false_and, and_false, true_and, and_true, and_self, or_true, true_or, or_false, false_or]; omega)) (by first | omega | (simp only [zuI_1, zuI_2, zuJ_1, zuJ_2, zuJ_3, zuP_1, zuP_2, zuP_3, zuC_1, zuC_2, reduceIte, Nat.reduceEqDiff, false_and, and_false, true_and, and_true, and_self, or_true, true_or, or_false, false_or]; omega))) (by decide) (by decide) ⟨Nat.zero_le _, Nat.zero_le _⟩ (Nat.le_of_ble_eq_true rfl) (fun G97 hp97 => ?_)
              obtain ⟨hz97, hq97⟩ := hp97
              try simp only [zuI_1, zuI_2, zuJ_1, zuJ_2, zuJ_3, zuP_1, zuP_2, zuP_3, zuC_1, zuC_2, reduceIte, Nat.reduceEqDiff, false_and, and_false, true_and, and_true, and_self, or_true, true_or, or_false, false_or] at hq97
              have t2071 := zsm_at hz97 2071 (Γ.2.1 w 34) k.toNat (by decide)
              try simp only [zuI_1, zuI_2, zuJ_1, zuJ_2, zuJ_3, zuP_1, zuP_2, zuP_3, zuC_1, zuC_2, reduceIte, Nat.reduceEqDiff, false_and, and_false, true_and, and_true, and_self, or_true, true_or, or_false, false_or] at t2071
              refine zs_aload_n (pc := 100) C dX9_law_100 rfl ?_
              refine zs_iload_n (pc := 101) C dX9_law_101 rfl ?_
              refine zVj1 (pc := 102) C dX9_law_102 v_X9_418 (c_X9_lawOf hX (by repeat (first | assumption | refine MI_I (by decide) ?_ | refine MI_J ?_ | refine MI_sm (by assumption) (by decide) ?_ | refine MI_sn (by assumption) (by decide) ?_)) (by omega) (by omega)) (by decide) (by decide) ⟨Nat.zero_le _, Nat.zero_le _⟩ (Nat.le_of_ble_eq_true rfl) (fun x102 G102 l102 u102 hp102 => ?_)
              obtain ⟨hz102, hq102⟩ := hp102
              refine zs_lstore (pc := 105) C dX9_law_105 (by decide) ?_
              dsimp only [zset, zclr, znone]
              refine zs_aload_n (pc := 107) C dX9_law_107 rfl ?_
              refine zs_getz (r := 1050) (pc := 108) C dX9_law_108 w_X9_357 f_10_50 rfl (r_1050 0) (fun v108 e108 l108 u108 => ?_)
              refine zs_if_eq (tgt := 120) (pc := 111) C dX9_law_111 (by decide) (fun h111 => ?_) (fun h111 => ?_)
              · skip
                refine zs_lload (pc := 120) C dX9_law_120 rfl ?_
                exact zs_lret (pc := 122) C hr hlk dX9_law_122 ⟨by repeat (first | exact zsm_rf | assumption | refine zsm_C (by decide) ?_ | refine zsm_I (by decide) ?_ | refine zsm_J ?_ | refine zsm_c (by assumption) (by decide) ?_), trivial⟩
              · skip
                refine zs_ldc2 (n := -9223372036854775808) (pc := 114) C dX9_law_114 q_X9_433 (by decide) (by decide) ?_
                refine zs_goto (tgt := 122) (pc := 117) C dX9_law_117 (by decide) ?_
                exact zs_lret (pc := 122) C hr hlk dX9_law_122 ⟨by repeat (first | exact zsm_rf | assumption | refine zsm_C (by decide) ?_ | refine zsm_I (by decide) ?_ | refine zsm_J ?_ | refine zsm_c (by assumption) (by decide) ?_), trivial⟩
            · skip
              refine zs_aload_n (pc := 79) C dX9_law_79 rfl ?_
              refine zs_iconst (pc := 80) C dX9_law_80 (by decide) ?_
              refine zs_iload_n (pc := 81) C dX9_law_81 rfl ?_
              refine zs_iload_n (pc := 82) C dX9_law_82 rfl ?_
              refine zVip3 (pc := 83) C dX9_law_83 v_X9_394 (c_X9_leftOf hX (by first | omega | (simp only [zuI_1, zuI_2, zuJ_1, zuJ_2, zuJ_3, zuP_1, zuP_2, zuP_3, zuC_1, zuC_2, reduceIte, Nat.reduceEqDiff, false_and, and_false, true_and, and_true, and_self, or_true, true_or, or_false, false_or]; omega)) (by first | omega | (simp only [zuI_1, zuI_2, zuJ_1, zuJ_2, zuJ_3, zuP_1, zuP_2, zuP_3, zuC_1, zuC_2, reduceIte, Nat.reduceEqDiff, false_and, and_false, true_and, and_true, and_self, or_true, true_or, or_false, false_or]; omega)) (by first | omega | (simp only [zuI_1, zuI_2, zuJ_1, zuJ_2, zuJ_3, zuP_1, zuP_2, zuP_3, zuC_1, zuC_2, reduceIte, Nat.reduceEqDiff, false_and, and_false, true_and, and_true, and_self, or_true, true_or, or_false, false_or]; omega))) (by decide) (by decide) ⟨Nat.zero_le _, Nat.zero_le _⟩ (Nat.le_of_ble_eq_true rfl) (fun x83 l83 u83 hp83 => ?_)
              have hq83 := hp83
              try simp only [zuI_1, zuI_2, zuJ_1, zuJ_2, zuJ_3, zuP_1, zuP_2, zuP_3, zuC_1, zuC_2, reduceIte, Nat.reduceEqDiff, false_and, and_false, true_and, and_true, and_self, or_true, true_or, or_false, false_or] at hq83
              refine zs_if_ne (tgt := 93) (pc := 86) C dX9_law_86 (by decide) (fun h86 => ?_) (fun h86 => ?_)
              · skip
                refine zs_aload_n (pc := 93) C dX9_law_93 rfl ?_
                refine zs_iconst (pc := 94) C dX9_law_94 (by decide) ?_
                refine zs_iload_n (pc := 95) C dX9_law_95 rfl ?_
                refine zs_iload_n (pc := 96) C dX9_law_96 rfl ?_
                refine zVv3 (pc := 97) C dX9_law_97 v_X9_421 (c_X9_layOf hX (by first | omega | (simp only [zuI_1, zuI_2, zuJ_1, zuJ_2, zuJ_3, zuP_1, zuP_2, zuP_3, zuC_1, zuC_2, reduceIte, Nat.reduceEqDiff, false_and, and_false, true_and, and_true, and_self, or_true, true_or, or_false, false_or]; omega)) (by first | omega | (simp only [zuI_1, zuI_2, zuJ_1, zuJ_2, zuJ_3, zuP_1, zuP_2, zuP_3, zuC_1, zuC_2, reduceIte, Nat.reduceEqDiff, false_and, and_false, true_and, and_true, and_self, or_true, true_or, or_false, false_or]; omega)) (by first | omega | (simp only [zuI_1, zuI_2, zuJ_1, zuJ_2, zuJ_3, zuP_1, zuP_2, zuP_3, zuC_1, zuC_2, reduceIte, Nat.reduceEqDiff, false_and, and_false, true_and, and_true, and_self, or_true, true_or, or_false, false_or]; omega))) (by decide) (by decide) ⟨Nat.zero_le _, Nat.zero_le _⟩ (Nat.le_of_ble_eq_true rfl) (fun G97 hp97 => ?_)
                obtain ⟨hz97, hq97⟩ := hp97
                try simp only [zuI_1, zuI_2, zuJ_1, zuJ_2, zuJ_3, zuP_1, zuP_2, zuP_3, zuC_1, zuC_2, reduceIte, Nat.reduceEqDiff, false_and, and_false, true_and, and_true, and_self, or_true, true_or, or_false, false_or] at hq97
                have t2071 := zsm_at hz97 2071 (Γ.2.1 w 34) k.toNat (by decide)
                try simp only [zuI_1, zuI_2, zuJ_1, zuJ_2, zuJ_3, zuP_1, zuP_2, zuP_3, zuC_1, zuC_2, reduceIte, Nat.reduceEqDiff, false_and, and_false, true_and, and_true, and_self, or_true, true_or, or_false, false_or] at t2071
                refine zs_aload_n (pc := 100) C dX9_law_100 rfl ?_
                refine zs_iload_n (pc := 101) C dX9_law_101 rfl ?_
                refine zVj1 (pc := 102) C dX9_law_102 v_X9_418 (c_X9_lawOf hX (by repeat (first | assumption | refine MI_I (by decide) ?_ | refine MI_J ?_ | refine MI_sm (by assumption) (by decide) ?_ | refine MI_sn (by assumption) (by decide) ?_)) (by omega) (by omega)) (by decide) (by decide) ⟨Nat.zero_le _, Nat.zero_le _⟩ (Nat.le_of_ble_eq_true rfl) (fun x102 G102 l102 u102 hp102 => ?_)
                obtain ⟨hz102, hq102⟩ := hp102
                refine zs_lstore (pc := 105) C dX9_law_105 (by decide) ?_
                dsimp only [zset, zclr, znone]
                refine zs_aload_n (pc := 107) C dX9_law_107 rfl ?_
                refine zs_getz (r := 1050) (pc := 108) C dX9_law_108 w_X9_357 f_10_50 rfl (r_1050 0) (fun v108 e108 l108 u108 => ?_)
                refine zs_if_eq (tgt := 120) (pc := 111) C dX9_law_111 (by decide) (fun h111 => ?_) (fun h111 => ?_)
                · skip
                  refine zs_lload (pc := 120) C dX9_law_120 rfl ?_
                  exact zs_lret (pc := 122) C hr hlk dX9_law_122 ⟨by repeat (first | exact zsm_rf | assumption | refine zsm_C (by decide) ?_ | refine zsm_I (by decide) ?_ | refine zsm_J ?_ | refine zsm_c (by assumption) (by decide) ?_), trivial⟩
                · skip
                  refine zs_ldc2 (n := -9223372036854775808) (pc := 114) C dX9_law_114 q_X9_433 (by decide) (by decide) ?_
                  refine zs_goto (tgt := 122) (pc := 117) C dX9_law_117 (by decide) ?_
                  exact zs_lret (pc := 122) C hr hlk dX9_law_122 ⟨by repeat (first | exact zsm_rf | assumption | refine zsm_C (by decide) ?_ | refine zsm_I (by decide) ?_ | refine zsm_J ?_ | refine zsm_c (by assumption) (by decide) ?_), trivial⟩
              · skip
                refine zs_ldc2 (n := -9223372036854775808) (pc := 89) C dX9_law_89 q_X9_433 (by decide) (by decide) ?_
                exact zs_lret (pc := 92) C hr hlk dX9_law_92 ⟨by repeat (first | exact zsm_rf | assumption | refine zsm_C (by decide) ?_ | refine zsm_I (by decide) ?_ | refine zsm_J ?_ | refine zsm_c (by assumption) (by decide) ?_), trivial⟩
        · skip
          refine zs_aload_n (pc := 40) C dX9_law_40 rfl ?_
          refine zs_iload_n (pc := 41) C dX9_law_41 rfl ?_
          refine zVip1 (pc := 42) C dX9_law_42 v_X9_398 (c_X9_isPerson hX ) (by decide) (by decide) ⟨Nat.zero_le _, Nat.zero_le _⟩ (Nat.le_of_ble_eq_true rfl) (fun x42 l42 u42 hp42 => ?_)
          have hq42 := hp42
          try simp only [zuI_1, zuI_2, zuJ_1, zuJ_2, zuJ_3, zuP_1, zuP_2, zuP_3, zuC_1, zuC_2, reduceIte, Nat.reduceEqDiff, false_and, and_false, true_and, and_true, and_self, or_true, true_or, or_false, false_or] at hq42
          refine zs_if_eq (tgt := 53) (pc := 45) C dX9_law_45 (by decide) (fun h45 => ?_) (fun h45 => ?_)
          · skip
            refine zs_ldc2 (n := -9223372036854775808) (pc := 53) C dX9_law_53 q_X9_433 (by decide) (by decide) ?_
            exact zs_lret (pc := 56) C hr hlk dX9_law_56 ⟨by repeat (first | exact zsm_rf | assumption | refine zsm_C (by decide) ?_ | refine zsm_I (by decide) ?_ | refine zsm_J ?_ | refine zsm_c (by assumption) (by decide) ?_), trivial⟩
          · skip
            refine zs_iload_n (pc := 48) C dX9_law_48 rfl ?_
            refine zs_iload_n (pc := 49) C dX9_law_49 rfl ?_
            refine zs_icmp_gt (tgt := 57) (pc := 50) C dX9_law_50 (by decide) (fun h50 => ?_) (fun h50 => ?_)
            · skip
              refine zs_aload_n (pc := 57) C dX9_law_57 rfl ?_
              refine zs_iload_n (pc := 58) C dX9_law_58 rfl ?_
              refine zs_iload_n (pc := 59) C dX9_law_59 rfl ?_
              refine zVv2 (pc := 60) C dX9_law_60 v_X9_435 (c_X9_layPair hX (by first | omega | (simp only [zuI_1, zuI_2, zuJ_1, zuJ_2, zuJ_3, zuP_1, zuP_2, zuP_3, zuC_1, zuC_2, reduceIte, Nat.reduceEqDiff, false_and, and_false, true_and, and_true, and_self, or_true, true_or, or_false, false_or]; omega)) (by first | omega | (simp only [zuI_1, zuI_2, zuJ_1, zuJ_2, zuJ_3, zuP_1, zuP_2, zuP_3, zuC_1, zuC_2, reduceIte, Nat.reduceEqDiff, false_and, and_false, true_and, and_true, and_self, or_true, true_or, or_false, false_or]; omega))) (by decide) (by decide) ⟨Nat.zero_le _, Nat.zero_le _⟩ (Nat.le_of_ble_eq_true rfl) (fun G60 hp60 => ?_)
              obtain ⟨hz60, hq60⟩ := hp60
              try simp only [zuI_1, zuI_2, zuJ_1, zuJ_2, zuJ_3, zuP_1, zuP_2, zuP_3, zuC_1, zuC_2, reduceIte, Nat.reduceEqDiff, false_and, and_false, true_and, and_true, and_self, or_true, true_or, or_false, false_or] at hq60
              have t2071 := zsm_at hz60 2071 (Γ.2.1 w 34) k.toNat (by decide)
              try simp only [zuI_1, zuI_2, zuJ_1, zuJ_2, zuJ_3, zuP_1, zuP_2, zuP_3, zuC_1, zuC_2, reduceIte, Nat.reduceEqDiff, false_and, and_false, true_and, and_true, and_self, or_true, true_or, or_false, false_or] at t2071
              refine zs_goto (tgt := 100) (pc := 63) C dX9_law_63 (by decide) ?_
              refine zs_aload_n (pc := 100) C dX9_law_100 rfl ?_
              refine zs_iload_n (pc := 101) C dX9_law_101 rfl ?_
              refine zVj1 (pc := 102) C dX9_law_102 v_X9_418 (c_X9_lawOf hX (by repeat (first | assumption | refine MI_I (by decide) ?_ | refine MI_J ?_ | refine MI_sm (by assumption) (by decide) ?_ | refine MI_sn (by assumption) (by decide) ?_)) (by omega) (by omega)) (by decide) (by decide) ⟨Nat.zero_le _, Nat.zero_le _⟩ (Nat.le_of_ble_eq_true rfl) (fun x102 G102 l102 u102 hp102 => ?_)
              obtain ⟨hz102, hq102⟩ := hp102
              refine zs_lstore (pc := 105) C dX9_law_105 (by decide) ?_
              dsimp only [zset, zclr, znone]
              refine zs_aload_n (pc := 107) C dX9_law_107 rfl ?_
              refine zs_getz (r := 1050) (pc := 108) C dX9_law_108 w_X9_357 f_10_50 rfl (r_1050 0) (fun v108 e108 l108 u108 => ?_)
              refine zs_if_eq (tgt := 120) (pc := 111) C dX9_law_111 (by decide) (fun h111 => ?_) (fun h111 => ?_)
              · skip
                refine zs_lload (pc := 120) C dX9_law_120 rfl ?_
                exact zs_lret (pc := 122) C hr hlk dX9_law_122 ⟨by repeat (first | exact zsm_rf | assumption | refine zsm_C (by decide) ?_ | refine zsm_I (by decide) ?_ | refine zsm_J ?_ | refine zsm_c (by assumption) (by decide) ?_), trivial⟩
              · skip
                refine zs_ldc2 (n := -9223372036854775808) (pc := 114) C dX9_law_114 q_X9_433 (by decide) (by decide) ?_
                refine zs_goto (tgt := 122) (pc := 117) C dX9_law_117 (by decide) ?_
                exact zs_lret (pc := 122) C hr hlk dX9_law_122 ⟨by repeat (first | exact zsm_rf | assumption | refine zsm_C (by decide) ?_ | refine zsm_I (by decide) ?_ | refine zsm_J ?_ | refine zsm_c (by assumption) (by decide) ?_), trivial⟩
            · skip
              refine zs_ldc2 (n := -9223372036854775808) (pc := 53) C dX9_law_53 q_X9_433 (by decide) (by decide) ?_
              exact zs_lret (pc := 56) C hr hlk dX9_law_56 ⟨by repeat (first | exact zsm_rf | assumption | refine zsm_C (by decide) ?_ | refine zsm_I (by decide) ?_ | refine zsm_J ?_ | refine zsm_c (by assumption) (by decide) ?_), trivial⟩
      · skip
        refine zs_ldc2 (n := -9223372036854775808) (pc := 31) C dX9_law_31 q_X9_433 (by decide) (by decide) ?_
        exact zs_lret (pc := 34) C hr hlk dX9_law_34 ⟨by repeat (first | exact zsm_rf | assumption | refine zsm_C (by decide) ?_ | refine zsm_I (by decide) ?_ | refine zsm_J ?_ | refine zsm_c (by assumption) (by decide) ?_), trivial⟩

set_option maxHeartbeats 4000000 in
set_option maxRecDepth 100000 in
theorem c_X9_count {l : Launch} {Γ : zΓ} {G : zH} {w : Nat} {k : Int} (hX : zXs Γ)  : zMet l Γ yX9_count cX9_count 2 (some .int) 1 [zr 10 w, zi k] G (zpi (fun x G' => zsm [1002] G G' ∧ True)) := by
  refine zMet_of RX9 hX (by decide) rfl (Nat.le_of_ble_eq_true rfl) ?_
  intro p e s m args below meth c C hr hlk
  show Z p l e (zrm 1) s m args below meth c Γ 2 0 0 (MQ below (zQc Γ (zpi (fun x G' => zsm [1002] G G' ∧ True))) args s 0 0 (zA Γ)) 0 [some (zr 10 w), some (zi k)] [] G
  refine zs_loc 1 rfl (fun ha1 hb1 => ?_)
  refine zs_aload_n (pc := 0) C dX9_count_0 rfl ?_
  refine zs_iconst (pc := 1) C dX9_count_1 (by decide) ?_
  refine zs_puti (r := 1002) (pc := 2) C dX9_count_2 w_X9_178 f_10_2 rfl (r_1002 0) (by omega) ?_
  refine zs_iload_n (pc := 5) C dX9_count_5 rfl ?_
  refine zs_name (fun y6 ey6 => ?_)
  rcases (show y6 = 0 ∨ y6 = 1 ∨ y6 = 2 ∨ y6 = 3 ∨ y6 = 4 ∨ y6 = 5 ∨ y6 = 6 ∨ y6 = 7 ∨ y6 = 8 ∨ y6 = 9 ∨ y6 = 10 ∨ y6 = 11 ∨ (y6 < 0 ∨ 11 < y6) by omega) with h6 | h6 | h6 | h6 | h6 | h6 | h6 | h6 | h6 | h6 | h6 | h6 | h6
  · skip
    refine zs_tabIn (pc := 6) (tgt := 68) C 0 dX9_count_6 h6 (by decide) rfl (by decide) ?_
    refine zs_aload_n (pc := 68) C dX9_count_68 rfl ?_
    refine zs_geti (r := 1012) (pc := 69) C dX9_count_69 w_X9_258 f_10_12 rfl (r_1012 0) (fun v69 e69 l69 u69 => ?_)
    try simp only [zuI_1, zuI_2, zuJ_1, zuJ_2, zuJ_3, zuP_1, zuP_2, zuP_3, zuC_1, zuC_2, reduceIte, Nat.reduceEqDiff, false_and, and_false, true_and, and_true, and_self, or_true, true_or, or_false, false_or] at e69
    exact zs_iret (pc := 72) C hr hlk dX9_count_72 ⟨by repeat (first | exact zsm_rf | assumption | refine zsm_C (by decide) ?_ | refine zsm_I (by decide) ?_ | refine zsm_J ?_ | refine zsm_c (by assumption) (by decide) ?_), trivial⟩
  · skip
    refine zs_tabIn (pc := 6) (tgt := 73) C 1 dX9_count_6 h6 (by decide) rfl (by decide) ?_
    refine zs_aload_n (pc := 73) C dX9_count_73 rfl ?_
    refine zs_geti (r := 1013) (pc := 74) C dX9_count_74 w_X9_261 f_10_13 rfl (r_1013 0) (fun v74 e74 l74 u74 => ?_)
    try simp only [zuI_1, zuI_2, zuJ_1, zuJ_2, zuJ_3, zuP_1, zuP_2, zuP_3, zuC_1, zuC_2, reduceIte, Nat.reduceEqDiff, false_and, and_false, true_and, and_true, and_self, or_true, true_or, or_false, false_or] at e74
    exact zs_iret (pc := 77) C hr hlk dX9_count_77 ⟨by repeat (first | exact zsm_rf | assumption | refine zsm_C (by decide) ?_ | refine zsm_I (by decide) ?_ | refine zsm_J ?_ | refine zsm_c (by assumption) (by decide) ?_), trivial⟩
  · skip
    refine zs_tabIn (pc := 6) (tgt := 78) C 2 dX9_count_6 h6 (by decide) rfl (by decide) ?_
    refine zs_aload_n (pc := 78) C dX9_count_78 rfl ?_
    refine zs_geti (r := 1014) (pc := 79) C dX9_count_79 w_X9_264 f_10_14 rfl (r_1014 0) (fun v79 e79 l79 u79 => ?_)
    try simp only [zuI_1, zuI_2, zuJ_1, zuJ_2, zuJ_3, zuP_1, zuP_2, zuP_3, zuC_1, zuC_2, reduceIte, Nat.reduceEqDiff, false_and, and_false, true_and, and_true, and_self, or_true, true_or, or_false, false_or] at e79
    exact zs_iret (pc := 82) C hr hlk dX9_count_82 ⟨by repeat (first | exact zsm_rf | assumption | refine zsm_C (by decide) ?_ | refine zsm_I (by decide) ?_ | refine zsm_J ?_ | refine zsm_c (by assumption) (by decide) ?_), trivial⟩
  · skip
    refine zs_tabIn (pc := 6) (tgt := 83) C 3 dX9_count_6 h6 (by decide) rfl (by decide) ?_
    refine zs_aload_n (pc := 83) C dX9_count_83 rfl ?_
    refine zs_geti (r := 1015) (pc := 84) C dX9_count_84 w_X9_267 f_10_15 rfl (r_1015 0) (fun v84 e84 l84 u84 => ?_)
    try simp only [zuI_1, zuI_2, zuJ_1, zuJ_2, zuJ_3, zuP_1, zuP_2, zuP_3, zuC_1, zuC_2, reduceIte, Nat.reduceEqDiff, false_and, and_false, true_and, and_true, and_self, or_true, true_or, or_false, false_or] at e84
    exact zs_iret (pc := 87) C hr hlk dX9_count_87 ⟨by repeat (first | exact zsm_rf | assumption | refine zsm_C (by decide) ?_ | refine zsm_I (by decide) ?_ | refine zsm_J ?_ | refine zsm_c (by assumption) (by decide) ?_), trivial⟩
  · skip
    refine zs_tabIn (pc := 6) (tgt := 88) C 4 dX9_count_6 h6 (by decide) rfl (by decide) ?_
    refine zs_aload_n (pc := 88) C dX9_count_88 rfl ?_
    refine zs_geti (r := 1016) (pc := 89) C dX9_count_89 w_X9_270 f_10_16 rfl (r_1016 0) (fun v89 e89 l89 u89 => ?_)
    try simp only [zuI_1, zuI_2, zuJ_1, zuJ_2, zuJ_3, zuP_1, zuP_2, zuP_3, zuC_1, zuC_2, reduceIte, Nat.reduceEqDiff, false_and, and_false, true_and, and_true, and_self, or_true, true_or, or_false, false_or] at e89
    exact zs_iret (pc := 92) C hr hlk dX9_count_92 ⟨by repeat (first | exact zsm_rf | assumption | refine zsm_C (by decide) ?_ | refine zsm_I (by decide) ?_ | refine zsm_J ?_ | refine zsm_c (by assumption) (by decide) ?_), trivial⟩
  · skip
    refine zs_tabIn (pc := 6) (tgt := 93) C 5 dX9_count_6 h6 (by decide) rfl (by decide) ?_
    refine zs_aload_n (pc := 93) C dX9_count_93 rfl ?_
    refine zs_getf (pc := 94) C dX9_count_94 w_X9_115 f_10_60 (by decide) ?_
    refine zs_iconst (pc := 97) C dX9_count_97 (by decide) ?_
    refine zs_iald (r := 2090) (pc := 98) C dX9_count_98 a_90 (by decide) (by omega) rfl (r_2090 _) (fun v98 e98 l98 u98 => ?_)
    try simp only [zuI_1, zuI_2, zuJ_1, zuJ_2, zuJ_3, zuP_1, zuP_2, zuP_3, zuC_1, zuC_2, reduceIte, Nat.reduceEqDiff, false_and, and_false, true_and, and_true, and_self, or_true, true_or, or_false, false_or] at e98
    exact zs_iret (pc := 99) C hr hlk dX9_count_99 ⟨by repeat (first | exact zsm_rf | assumption | refine zsm_C (by decide) ?_ | refine zsm_I (by decide) ?_ | refine zsm_J ?_ | refine zsm_c (by assumption) (by decide) ?_), trivial⟩
  · skip
    refine zs_tabIn (pc := 6) (tgt := 100) C 6 dX9_count_6 h6 (by decide) rfl (by decide) ?_
    refine zs_aload_n (pc := 100) C dX9_count_100 rfl ?_
    refine zs_getf (pc := 101) C dX9_count_101 w_X9_106 f_10_57 (by decide) ?_
    refine zs_iconst (pc := 104) C dX9_count_104 (by decide) ?_
    refine zs_iald (r := 2087) (pc := 105) C dX9_count_105 a_87 (by decide) (by omega) rfl (r_2087 _) (fun v105 e105 l105 u105 => ?_)
    try simp only [zuI_1, zuI_2, zuJ_1, zuJ_2, zuJ_3, zuP_1, zuP_2, zuP_3, zuC_1, zuC_2, reduceIte, Nat.reduceEqDiff, false_and, and_false, true_and, and_true, and_self, or_true, true_or, or_false, false_or] at e105
    exact zs_iret (pc := 106) C hr hlk dX9_count_106 ⟨by repeat (first | exact zsm_rf | assumption | refine zsm_C (by decide) ?_ | refine zsm_I (by decide) ?_ | refine zsm_J ?_ | refine zsm_c (by assumption) (by decide) ?_), trivial⟩
  · skip
    refine zs_tabIn (pc := 6) (tgt := 107) C 7 dX9_count_6 h6 (by decide) rfl (by decide) ?_
    refine zs_aload_n (pc := 107) C dX9_count_107 rfl ?_
    refine zVip0 (pc := 108) C dX9_count_108 v_X9_541 (c_X9_knownBy hX ) (by decide) (by decide) ⟨Nat.zero_le _, Nat.zero_le _⟩ (Nat.le_of_ble_eq_true rfl) (fun x108 l108 u108 hp108 => ?_)
    have hq108 := hp108
    try simp only [zuI_1, zuI_2, zuJ_1, zuJ_2, zuJ_3, zuP_1, zuP_2, zuP_3, zuC_1, zuC_2, reduceIte, Nat.reduceEqDiff, false_and, and_false, true_and, and_true, and_self, or_true, true_or, or_false, false_or] at hq108
    exact zs_iret (pc := 111) C hr hlk dX9_count_111 ⟨by repeat (first | exact zsm_rf | assumption | refine zsm_C (by decide) ?_ | refine zsm_I (by decide) ?_ | refine zsm_J ?_ | refine zsm_c (by assumption) (by decide) ?_), trivial⟩
  · skip
    refine zs_tabIn (pc := 6) (tgt := 112) C 8 dX9_count_6 h6 (by decide) rfl (by decide) ?_
    refine zs_aload_n (pc := 112) C dX9_count_112 rfl ?_
    refine zs_geti (r := 1084) (pc := 113) C dX9_count_113 w_X9_382 f_10_84 rfl (r_1084 0) (fun v113 e113 l113 u113 => ?_)
    try simp only [zuI_1, zuI_2, zuJ_1, zuJ_2, zuJ_3, zuP_1, zuP_2, zuP_3, zuC_1, zuC_2, reduceIte, Nat.reduceEqDiff, false_and, and_false, true_and, and_true, and_self, or_true, true_or, or_false, false_or] at e113
    exact zs_iret (pc := 116) C hr hlk dX9_count_116 ⟨by repeat (first | exact zsm_rf | assumption | refine zsm_C (by decide) ?_ | refine zsm_I (by decide) ?_ | refine zsm_J ?_ | refine zsm_c (by assumption) (by decide) ?_), trivial⟩
  · skip
    refine zs_tabIn (pc := 6) (tgt := 117) C 9 dX9_count_6 h6 (by decide) rfl (by decide) ?_
    refine zs_aload_n (pc := 117) C dX9_count_117 rfl ?_
    refine zs_getf (pc := 118) C dX9_count_118 w_X9_109 f_10_58 (by decide) ?_
    refine zs_iconst (pc := 121) C dX9_count_121 (by decide) ?_
    refine zs_iald (r := 2088) (pc := 122) C dX9_count_122 a_88 (by decide) (by omega) rfl (r_2088 _) (fun v122 e122 l122 u122 => ?_)
    try simp only [zuI_1, zuI_2, zuJ_1, zuJ_2, zuJ_3, zuP_1, zuP_2, zuP_3, zuC_1, zuC_2, reduceIte, Nat.reduceEqDiff, false_and, and_false, true_and, and_true, and_self, or_true, true_or, or_false, false_or] at e122
    exact zs_iret (pc := 123) C hr hlk dX9_count_123 ⟨by repeat (first | exact zsm_rf | assumption | refine zsm_C (by decide) ?_ | refine zsm_I (by decide) ?_ | refine zsm_J ?_ | refine zsm_c (by assumption) (by decide) ?_), trivial⟩
  · skip
    refine zs_tabIn (pc := 6) (tgt := 124) C 10 dX9_count_6 h6 (by decide) rfl (by decide) ?_
    refine zs_aload_n (pc := 124) C dX9_count_124 rfl ?_
    refine zs_getf (pc := 125) C dX9_count_125 w_X9_112 f_10_59 (by decide) ?_
    refine zs_iconst (pc := 128) C dX9_count_128 (by decide) ?_
    refine zs_iald (r := 2089) (pc := 129) C dX9_count_129 a_89 (by decide) (by omega) rfl (r_2089 _) (fun v129 e129 l129 u129 => ?_)
    try simp only [zuI_1, zuI_2, zuJ_1, zuJ_2, zuJ_3, zuP_1, zuP_2, zuP_3, zuC_1, zuC_2, reduceIte, Nat.reduceEqDiff, false_and, and_false, true_and, and_true, and_self, or_true, true_or, or_false, false_or] at e129
    exact zs_iret (pc := 130) C hr hlk dX9_count_130 ⟨by repeat (first | exact zsm_rf | assumption | refine zsm_C (by decide) ?_ | refine zsm_I (by decide) ?_ | refine zsm_J ?_ | refine zsm_c (by assumption) (by decide) ?_), trivial⟩
  · skip
    refine zs_tabIn (pc := 6) (tgt := 131) C 11 dX9_count_6 h6 (by decide) rfl (by decide) ?_
    refine zs_aload_n (pc := 131) C dX9_count_131 rfl ?_
    refine zs_iconst (pc := 132) C dX9_count_132 (by decide) ?_
    refine zs_iconst (pc := 133) C dX9_count_133 (by decide) ?_
    refine zVip2 (pc := 134) C dX9_count_134 v_X9_468 (c_X9_flourOf hX (by first | omega | (simp only [zuI_1, zuI_2, zuJ_1, zuJ_2, zuJ_3, zuP_1, zuP_2, zuP_3, zuC_1, zuC_2, reduceIte, Nat.reduceEqDiff, false_and, and_false, true_and, and_true, and_self, or_true, true_or, or_false, false_or]; omega))) (by decide) (by decide) ⟨Nat.zero_le _, Nat.zero_le _⟩ (Nat.le_of_ble_eq_true rfl) (fun x134 l134 u134 hp134 => ?_)
    have hq134 := hp134
    try simp only [zuI_1, zuI_2, zuJ_1, zuJ_2, zuJ_3, zuP_1, zuP_2, zuP_3, zuC_1, zuC_2, reduceIte, Nat.reduceEqDiff, false_and, and_false, true_and, and_true, and_self, or_true, true_or, or_false, false_or] at hq134
    exact zs_iret (pc := 137) C hr hlk dX9_count_137 ⟨by repeat (first | exact zsm_rf | assumption | refine zsm_C (by decide) ?_ | refine zsm_I (by decide) ?_ | refine zsm_J ?_ | refine zsm_c (by assumption) (by decide) ?_), trivial⟩
  · skip
    refine zs_tabOut (tgt := 138) (pc := 6) C dX9_count_6 h6 (by decide) ?_
    refine zs_iconst (pc := 138) C dX9_count_138 (by decide) ?_
    exact zs_iret (pc := 139) C hr hlk dX9_count_139 ⟨by repeat (first | exact zsm_rf | assumption | refine zsm_C (by decide) ?_ | refine zsm_I (by decide) ?_ | refine zsm_J ?_ | refine zsm_c (by assumption) (by decide) ?_), trivial⟩

