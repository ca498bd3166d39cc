/-- kept from the arithmetic -/
def zif (p q : Prop) : Prop := p ↔ q

set_option maxHeartbeats 4000000 in
set_option maxRecDepth 100000 in
theorem c_X9_signTokenF {l : Launch} {Γ : zΓ} {G : zH} {w : Nat}  (hX : zXs Γ) (hn : G.1 1007 w 0 < G.1 1006 w 0) (ha : G.1 1010 w 0 = G.1 1007 w 0) : zMet l Γ yX9_signToken cX9_signToken 4 none 0 [zr 10 w] G (zpv (fun G' => zsm [1007, 1008, 1009] G G' ∧ (G'.1 1007 w 0 = G.1 1007 w 0 + sgW ((G.1 2057 (Γ.2.1 w 0)) (G.1 1007 w 0).toNat) (bh (G.1 2057 (Γ.2.1 w 0)) (G.1 1006 w 0) (G.1 1007 w 0)) ∧ (sgV ((G.1 2057 (Γ.2.1 w 0)) (G.1 1007 w 0).toNat) (bh (G.1 2057 (Γ.2.1 w 0)) (G.1 1006 w 0) (G.1 1007 w 0)) = 0 → G'.1 1008 w 0 = 6 ∨ (G'.1 1008 w 0 = 4 ∧ G'.1 1009 w 0 = 37)) ∧ (sgV ((G.1 2057 (Γ.2.1 w 0)) (G.1 1007 w 0).toNat) (bh (G.1 2057 (Γ.2.1 w 0)) (G.1 1006 w 0) (G.1 1007 w 0)) ≠ 0 → sgM (sgV ((G.1 2057 (Γ.2.1 w 0)) (G.1 1007 w 0).toNat) (bh (G.1 2057 (Γ.2.1 w 0)) (G.1 1006 w 0) (G.1 1007 w 0))) (G'.1 1008 w 0) (G'.1 1009 w 0))))) := by
  refine zMet_of RX9 hX (by decide) rfl (Nat.le_of_ble_eq_true rfl) ?_
  intro p e s m args below meth c C hr hlk
  show Z p l e (zrm 0) s m args below meth c Γ 4 0 0 (MQ below (zQc Γ (zpv (fun G' => zsm [1007, 1008, 1009] G G' ∧ (G'.1 1007 w 0 = G.1 1007 w 0 + sgW ((G.1 2057 (Γ.2.1 w 0)) (G.1 1007 w 0).toNat) (bh (G.1 2057 (Γ.2.1 w 0)) (G.1 1006 w 0) (G.1 1007 w 0)) ∧ (sgV ((G.1 2057 (Γ.2.1 w 0)) (G.1 1007 w 0).toNat) (bh (G.1 2057 (Γ.2.1 w 0)) (G.1 1006 w 0) (G.1 1007 w 0)) = 0 → G'.1 1008 w 0 = 6 ∨ (G'.1 1008 w 0 = 4 ∧ G'.1 1009 w 0 = 37)) ∧ (sgV ((G.1 2057 (Γ.2.1 w 0)) (G.1 1007 w 0).toNat) (bh (G.1 2057 (Γ.2.1 w 0)) (G.1 1006 w 0) (G.1 1007 w 0)) ≠ 0 → sgM (sgV ((G.1 2057 (Γ.2.1 w 0)) (G.1 1007 w 0).toNat) (bh (G.1 2057 (Γ.2.1 w 0)) (G.1 1006 w 0) (G.1 1007 w 0))) (G'.1 1008 w 0) (G'.1 1009 w 0)))))) args s 0 0 (zA Γ)) 0 [some (zr 10 w), none, none, none] [] G
  refine zs_good (fun hGds0 => ?_)
  have hbs0 := hGds0.1 1006 w 0
  rw [r_1006] at hbs0
  refine zs_aload_n (pc := 0) C dX9_signToken_0 rfl ?_
  refine zs_aload_n (pc := 1) C dX9_signToken_1 rfl ?_
  refine zs_getf (pc := 2) C dX9_signToken_2 w_X9_7 f_10_0 (by decide) ?_
  refine zs_aload_n (pc := 5) C dX9_signToken_5 rfl ?_
  refine zs_geti (r := 1007) (pc := 6) C dX9_signToken_6 w_X9_193 f_10_7 rfl (r_1007 0) (fun v6 e6 l6 u6 => ?_)
  refine zs_iald (r := 2057) (pc := 9) C dX9_signToken_9 a_57 (by decide) (by omega) rfl (r_2057 _) (fun v9 e9 l9 u9 => ?_)
  refine zs_puti (r := 1009) (pc := 10) C dX9_signToken_10 w_X9_207 f_10_9 rfl (r_1009 0) (by omega) ?_
  refine zs_aload_n (pc := 13) C dX9_signToken_13 rfl ?_
  refine zs_dupa (pc := 14) C dX9_signToken_14 ?_
  refine zs_geti (r := 1007) (pc := 15) C dX9_signToken_15 w_X9_193 f_10_7 rfl (r_1007 0) (fun v15 e15 l15 u15 => ?_)
  try simp only [zuI_1, zuI_2, zuJ_1, zuJ_2, zuJ_3, zuP_1, zuP_2, zuP_3, zuC_1, zuC_2, reduceIte, Nat.reduceEqDiff, false_and, and_false, true_and, and_true, and_self, or_true, true_or, or_false, false_or] at e15
  refine zs_iconst (pc := 18) C dX9_signToken_18 (by decide) ?_
  first | refine zs_iadd (pc := 19) C dX9_signToken_19 (by omega) ?_ | refine zs_iaddF (pc := 19) C dX9_signToken_19 (fun z19 hz191 hz192 => ?_)
  refine zs_puti (r := 1007) (pc := 20) C dX9_signToken_20 w_X9_193 f_10_7 rfl (r_1007 0) (by omega) ?_
  refine zs_heap (P := fun G1 => zsm [1009, 1007] G G1 ∧ G1.1 1007 w 0 = G.1 1007 w 0 + 1 ∧ G1.1 1010 w 0 = G.1 1010 w 0 ∧ G1.1 1006 w 0 = G.1 1006 w 0 ∧ G1.1 1009 w 0 = v9) ⟨(by repeat (first | exact zsm_rf | assumption | refine zsm_C (by decide) ?_ | refine zsm_I (by decide) ?_ | refine zsm_J ?_ | refine zsm_c (by assumption) (by decide) ?_)), by simp only [zuI_1, zuI_2, zuJ_1, zuJ_2, zuJ_3, zuP_1, zuP_2, zuP_3, zuC_1, zuC_2, reduceIte, Nat.reduceEqDiff, false_and, and_false, true_and, and_true, and_self, or_true, true_or, or_false, false_or]; omega, by simp only [zuI_1, zuI_2, zuJ_1, zuJ_2, zuJ_3, zuP_1, zuP_2, zuP_3, zuC_1, zuC_2, reduceIte, Nat.reduceEqDiff, false_and, and_false, true_and, and_true, and_self, or_true, true_or, or_false, false_or], by simp only [zuI_1, zuI_2, zuJ_1, zuJ_2, zuJ_3, zuP_1, zuP_2, zuP_3, zuC_1, zuC_2, reduceIte, Nat.reduceEqDiff, false_and, and_false, true_and, and_true, and_self, or_true, true_or, or_false, false_or], by simp only [zuI_1, zuI_2, zuJ_1, zuJ_2, zuJ_3, zuP_1, zuP_2, zuP_3, zuC_1, zuC_2, reduceIte, Nat.reduceEqDiff, false_and, and_false, true_and, and_true, and_self, or_true, true_or, or_false, false_or]⟩ (fun G1 hG1 => ?_)
  obtain ⟨hh1, hh2, hh3, hh4, hh5⟩ := hG1
  have hc : (G.1 2057 (Γ.2.1 w 0)) (G.1 1007 w 0).toNat = v9 := by rw [e9, e6]
  refine zs_good (fun hGds1 => ?_)
  have hbs1 := hGds1.1 1006 w 0
  rw [r_1006] at hbs1
  refine zs_aload_n (pc := 23) C dX9_signToken_23 rfl ?_
  have J50 : ∀ (G0 : zH), (G0 = G1) → (v9 = 60 ∨ v9 = 62 ∨ v9 = 61) → Z p l e (zrm 0) s m args below meth c Γ 4 0 0 (MQ below (zQc Γ (zpv (fun G' => zsm [1007, 1008, 1009] G G' ∧ (G'.1 1007 w 0 = G.1 1007 w 0 + sgW ((G.1 2057 (Γ.2.1 w 0)) (G.1 1007 w 0).toNat) (bh (G.1 2057 (Γ.2.1 w 0)) (G.1 1006 w 0) (G.1 1007 w 0)) ∧ (sgV ((G.1 2057 (Γ.2.1 w 0)) (G.1 1007 w 0).toNat) (bh (G.1 2057 (Γ.2.1 w 0)) (G.1 1006 w 0) (G.1 1007 w 0)) = 0 → G'.1 1008 w 0 = 6 ∨ (G'.1 1008 w 0 = 4 ∧ G'.1 1009 w 0 = 37)) ∧ (sgV ((G.1 2057 (Γ.2.1 w 0)) (G.1 1007 w 0).toNat) (bh (G.1 2057 (Γ.2.1 w 0)) (G.1 1006 w 0) (G.1 1007 w 0)) ≠ 0 → sgM (sgV ((G.1 2057 (Γ.2.1 w 0)) (G.1 1007 w 0).toNat) (bh (G.1 2057 (Γ.2.1 w 0)) (G.1 1006 w 0) (G.1 1007 w 0))) (G'.1 1008 w 0) (G'.1 1009 w 0)))))) args s 0 0 (zA Γ)) 50 [some (zr 10 w), none, none, none] [] G0 := by
    intro G0 h50_0 h50_1
    rw [h50_0]
    refine zs_aload_n (pc := 50) C dX9_signToken_50 rfl ?_
    have J75 : ∀ (x1 : Int), (x1 = bh (G.1 2057 (Γ.2.1 w 0)) (G.1 1006 w 0) (G.1 1007 w 0)) → (x1 = 0 ∨ (G1.1 1007 w 0 < G1.1 1006 w 0)) → Z p l e (zrm 0) s m args below meth c Γ 4 0 0 (MQ below (zQc Γ (zpv (fun G' => zsm [1007, 1008, 1009] G G' ∧ (G'.1 1007 w 0 = G.1 1007 w 0 + sgW ((G.1 2057 (Γ.2.1 w 0)) (G.1 1007 w 0).toNat) (bh (G.1 2057 (Γ.2.1 w 0)) (G.1 1006 w 0) (G.1 1007 w 0)) ∧ (sgV ((G.1 2057 (Γ.2.1 w 0)) (G.1 1007 w 0).toNat) (bh (G.1 2057 (Γ.2.1 w 0)) (G.1 1006 w 0) (G.1 1007 w 0)) = 0 → G'.1 1008 w 0 = 6 ∨ (G'.1 1008 w 0 = 4 ∧ G'.1 1009 w 0 = 37)) ∧ (sgV ((G.1 2057 (Γ.2.1 w 0)) (G.1 1007 w 0).toNat) (bh (G.1 2057 (Γ.2.1 w 0)) (G.1 1006 w 0) (G.1 1007 w 0)) ≠ 0 → sgM (sgV ((G.1 2057 (Γ.2.1 w 0)) (G.1 1007 w 0).toNat) (bh (G.1 2057 (Γ.2.1 w 0)) (G.1 1006 w 0) (G.1 1007 w 0))) (G'.1 1008 w 0) (G'.1 1009 w 0)))))) args s 0 0 (zA Γ)) 75 [some (zr 10 w), some (zi x1), none, none] [] G1 := by
      intro x1 h75_0 h75_1
      refine zs_aload_n (pc := 75) C dX9_signToken_75 rfl ?_
      have J96 : ∀ (x2 : Int), ((x2 = 0 ∨ x2 = 1) ∧ zif (x2 = 1) (v9 ≠ 61 ∧ x1 = 61)) → (x2 = 0 ∨ (G1.1 1007 w 0 < G1.1 1006 w 0)) → Z p l e (zrm 0) s m args below meth c Γ 4 0 0 (MQ below (zQc Γ (zpv (fun G' => zsm [1007, 1008, 1009] G G' ∧ (G'.1 1007 w 0 = G.1 1007 w 0 + sgW ((G.1 2057 (Γ.2.1 w 0)) (G.1 1007 w 0).toNat) (bh (G.1 2057 (Γ.2.1 w 0)) (G.1 1006 w 0) (G.1 1007 w 0)) ∧ (sgV ((G.1 2057 (Γ.2.1 w 0)) (G.1 1007 w 0).toNat) (bh (G.1 2057 (Γ.2.1 w 0)) (G.1 1006 w 0) (G.1 1007 w 0)) = 0 → G'.1 1008 w 0 = 6 ∨ (G'.1 1008 w 0 = 4 ∧ G'.1 1009 w 0 = 37)) ∧ (sgV ((G.1 2057 (Γ.2.1 w 0)) (G.1 1007 w 0).toNat) (bh (G.1 2057 (Γ.2.1 w 0)) (G.1 1006 w 0) (G.1 1007 w 0)) ≠ 0 → sgM (sgV ((G.1 2057 (Γ.2.1 w 0)) (G.1 1007 w 0).toNat) (bh (G.1 2057 (Γ.2.1 w 0)) (G.1 1006 w 0) (G.1 1007 w 0))) (G'.1 1008 w 0) (G'.1 1009 w 0)))))) args s 0 0 (zA Γ)) 96 [some (zr 10 w), some (zi x1), some (zi x2), none] [] G1 := by
        intro x2 h96_0 h96_1
        refine zs_aload_n (pc := 96) C dX9_signToken_96 rfl ?_
        have J117 : ∀ (x3 : Int), ((x3 = 0 ∨ x3 = 1) ∧ zif (x3 = 1) (v9 = 60 ∧ x1 = 62)) → (x3 = 0 ∨ (G1.1 1007 w 0 < G1.1 1006 w 0)) → Z p l e (zrm 0) s m args below meth c Γ 4 0 0 (MQ below (zQc Γ (zpv (fun G' => zsm [1007, 1008, 1009] G G' ∧ (G'.1 1007 w 0 = G.1 1007 w 0 + sgW ((G.1 2057 (Γ.2.1 w 0)) (G.1 1007 w 0).toNat) (bh (G.1 2057 (Γ.2.1 w 0)) (G.1 1006 w 0) (G.1 1007 w 0)) ∧ (sgV ((G.1 2057 (Γ.2.1 w 0)) (G.1 1007 w 0).toNat) (bh (G.1 2057 (Γ.2.1 w 0)) (G.1 1006 w 0) (G.1 1007 w 0)) = 0 → G'.1 1008 w 0 = 6 ∨ (G'.1 1008 w 0 = 4 ∧ G'.1 1009 w 0 = 37)) ∧ (sgV ((G.1 2057 (Γ.2.1 w 0)) (G.1 1007 w 0).toNat) (bh (G.1 2057 (Γ.2.1 w 0)) (G.1 1006 w 0) (G.1 1007 w 0)) ≠ 0 → sgM (sgV ((G.1 2057 (Γ.2.1 w 0)) (G.1 1007 w 0).toNat) (bh (G.1 2057 (Γ.2.1 w 0)) (G.1 1006 w 0) (G.1 1007 w 0))) (G'.1 1008 w 0) (G'.1 1009 w 0)))))) args s 0 0 (zA Γ)) 117 [some (zr 10 w), some (zi x1), some (zi x2), some (zi x3)] [] G1 := by
          intro x3 h117_0 h117_1
          refine zs_iload_n (pc := 117) C dX9_signToken_117 rfl ?_
          have J135 : ∀ (G2 : zH), (zsm [1007, 1009] G G2) → (((x2 = 1 ∨ x3 = 1) ∧ G2.1 1007 w 0 = G.1 1007 w 0 + 2) ∨ (x2 = 0 ∧ x3 = 0 ∧ G2.1 1007 w 0 = G.1 1007 w 0 + 1)) → (G2.1 1009 w 0 = v9) → Z p l e (zrm 0) s m args below meth c Γ 4 0 0 (MQ below (zQc Γ (zpv (fun G' => zsm [1007, 1008, 1009] G G' ∧ (G'.1 1007 w 0 = G.1 1007 w 0 + sgW ((G.1 2057 (Γ.2.1 w 0)) (G.1 1007 w 0).toNat) (bh (G.1 2057 (Γ.2.1 w 0)) (G.1 1006 w 0) (G.1 1007 w 0)) ∧ (sgV ((G.1 2057 (Γ.2.1 w 0)) (G.1 1007 w 0).toNat) (bh (G.1 2057 (Γ.2.1 w 0)) (G.1 1006 w 0) (G.1 1007 w 0)) = 0 → G'.1 1008 w 0 = 6 ∨ (G'.1 1008 w 0 = 4 ∧ G'.1 1009 w 0 = 37)) ∧ (sgV ((G.1 2057 (Γ.2.1 w 0)) (G.1 1007 w 0).toNat) (bh (G.1 2057 (Γ.2.1 w 0)) (G.1 1006 w 0) (G.1 1007 w 0)) ≠ 0 → sgM (sgV ((G.1 2057 (Γ.2.1 w 0)) (G.1 1007 w 0).toNat) (bh (G.1 2057 (Γ.2.1 w 0)) (G.1 1006 w 0) (G.1 1007 w 0))) (G'.1 1008 w 0) (G'.1 1009 w 0)))))) args s 0 0 (zA Γ)) 135 [some (zr 10 w), some (zi x1), some (zi x2), some (zi x3)] [] G2 := by
            intro G2 h135_0 h135_1 h135_2
            refine zs_good (fun hGds2 => ?_)
            have hbs2 := hGds2.1 1006 w 0
            rw [r_1006] at hbs2
            refine zs_aload_n (pc := 135) C dX9_signToken_135 rfl ?_
            refine zs_iconst (pc := 136) C dX9_signToken_136 (by decide) ?_
            refine zs_puti (r := 1008) (pc := 137) C dX9_signToken_137 w_X9_196 f_10_8 rfl (r_1008 0) (by omega) ?_
            refine zs_aload_n (pc := 140) C dX9_signToken_140 rfl ?_
            refine zs_aload_n (pc := 141) C dX9_signToken_141 rfl ?_
            refine zs_geti (r := 1009) (pc := 142) C dX9_signToken_142 w_X9_207 f_10_9 rfl (r_1009 0) (fun v142 e142 l142 u142 => ?_)
            try simp only [zuI_1, zuI_2, zuJ_1, zuJ_2, zuJ_3, zuP_1, zuP_2, zuP_3, zuC_1, zuC_2, reduceIte, Nat.reduceEqDiff, false_and, and_false, true_and, and_true, and_self, or_true, true_or, or_false, false_or] at e142
            refine zs_bipush (pc := 145) C dX9_signToken_145 (by decide) (by decide) ?_
            refine zs_icmp_ne (tgt := 154) (pc := 147) C dX9_signToken_147 (by decide) (fun h147 => ?_) (fun h147 => ?_)
            · skip
              refine zs_aload_n (pc := 154) C dX9_signToken_154 rfl ?_
              refine zs_geti (r := 1009) (pc := 155) C dX9_signToken_155 w_X9_207 f_10_9 rfl (r_1009 0) (fun v155 e155 l155 u155 => ?_)
              try simp only [zuI_1, zuI_2, zuJ_1, zuJ_2, zuJ_3, zuP_1, zuP_2, zuP_3, zuC_1, zuC_2, reduceIte, Nat.reduceEqDiff, false_and, and_false, true_and, and_true, and_self, or_true, true_or, or_false, false_or] at e155
              refine zs_bipush (pc := 158) C dX9_signToken_158 (by decide) (by decide) ?_
              refine zs_icmp_ne (tgt := 183) (pc := 160) C dX9_signToken_160 (by decide) (fun h160 => ?_) (fun h160 => ?_)
              · skip
                refine zs_iload_n (pc := 183) C dX9_signToken_183 rfl ?_
                refine zs_if_eq (tgt := 191) (pc := 184) C dX9_signToken_184 (by decide) (fun h184 => ?_) (fun h184 => ?_)
                · skip
                  have hR := sg_b (c := v9) (d := x1) (x2 := x2) (x3 := x3) (r := 5) h50_1 ⟨h96_0.1, h96_0.2⟩ ⟨h117_0.1, h117_0.2⟩ h135_1 (Or.inr (Or.inr (Or.inr (Or.inr (Or.inr ⟨by omega, by omega, rfl⟩)))))
                  refine zs_iconst (pc := 191) C dX9_signToken_191 (by decide) ?_
                  refine zs_puti (r := 1009) (pc := 192) C dX9_signToken_192 w_X9_207 f_10_9 rfl (r_1009 0) (by omega) ?_
                  refine zs_goto (tgt := 290) (pc := 195) C dX9_signToken_195 (by decide) ?_
                  exact zs_vret (pc := 290) C hr hlk dX9_signToken_290 ⟨by repeat (first | exact zsm_rf | assumption | refine zsm_C (by decide) ?_ | refine zsm_I (by decide) ?_ | refine zsm_J ?_ | refine zsm_c (by assumption) (by decide) ?_), (by first | (rw [hc, ← h75_0]; exact ⟨by simp only [zuI_1, zuI_2, zuJ_1, zuJ_2, zuJ_3, zuP_1, zuP_2, zuP_3, zuC_1, zuC_2, reduceIte, Nat.reduceEqDiff, false_and, and_false, true_and, and_true, and_self, or_true, true_or, or_false, false_or]; exact hR.1, fun q9 => absurd q9 hR.2.1, fun _ => by simp only [zuI_1, zuI_2, zuJ_1, zuJ_2, zuJ_3, zuP_1, zuP_2, zuP_3, zuC_1, zuC_2, reduceIte, Nat.reduceEqDiff, false_and, and_false, true_and, and_true, and_self, or_true, true_or, or_false, false_or]; exact hR.2.2⟩) | (rw [hc, hR.1]; exact ⟨by simp only [zuI_1, zuI_2, zuJ_1, zuJ_2, zuJ_3, zuP_1, zuP_2, zuP_3, zuC_1, zuC_2, reduceIte, Nat.reduceEqDiff, false_and, and_false, true_and, and_true, and_self, or_true, true_or, or_false, false_or]; exact hh2, fun q9 => (by first | (refine Or.inl ?_; simp only [zuI_1, zuI_2, zuJ_1, zuJ_2, zuJ_3, zuP_1, zuP_2, zuP_3, zuC_1, zuC_2, reduceIte, Nat.reduceEqDiff, false_and, and_false, true_and, and_true, and_self, or_true, true_or, or_false, false_or]; done) | (rcases hR.2.1 q9 with z | z; exact absurd z (by decide); refine Or.inr ⟨?_, ?_⟩; (simp only [zuI_1, zuI_2, zuJ_1, zuJ_2, zuJ_3, zuP_1, zuP_2, zuP_3, zuC_1, zuC_2, reduceIte, Nat.reduceEqDiff, false_and, and_false, true_and, and_true, and_self, or_true, true_or, or_false, false_or]); (simp only [zuI_1, zuI_2, zuJ_1, zuJ_2, zuJ_3, zuP_1, zuP_2, zuP_3, zuC_1, zuC_2, reduceIte, Nat.reduceEqDiff, false_and, and_false, true_and, and_true, and_self, or_true, true_or, or_false, false_or]; rw [hh5]; exact z.2))), by simp only [zuI_1, zuI_2, zuJ_1, zuJ_2, zuJ_3, zuP_1, zuP_2, zuP_3, zuC_1, zuC_2, reduceIte, Nat.reduceEqDiff, false_and, and_false, true_and, and_true, and_self, or_true, true_or, or_false, false_or]; rw [hh5]; exact hR.2.2⟩))⟩
                · skip
                  have hR := sg_b (c := v9) (d := x1) (x2 := x2) (x3 := x3) (r := 4) h50_1 ⟨h96_0.1, h96_0.2⟩ ⟨h117_0.1, h117_0.2⟩ h135_1 (Or.inr (Or.inr (Or.inr (Or.inr (Or.inl ⟨by omega, by omega, rfl⟩)))))
                  refine zs_iconst (pc := 187) C dX9_signToken_187 (by decide) ?_
                  refine zs_goto (tgt := 192) (pc := 188) C dX9_signToken_188 (by decide) ?_
                  refine zs_puti (r := 1009) (pc := 192) C dX9_signToken_192 w_X9_207 f_10_9 rfl (r_1009 0) (by omega) ?_
                  refine zs_goto (tgt := 290) (pc := 195) C dX9_signToken_195 (by decide) ?_
                  exact zs_vret (pc := 290) C hr hlk dX9_signToken_290 ⟨by repeat (first | exact zsm_rf | assumption | refine zsm_C (by decide) ?_ | refine zsm_I (by decide) ?_ | refine zsm_J ?_ | refine zsm_c (by assumption) (by decide) ?_), (by first | (rw [hc, ← h75_0]; exact ⟨by simp only [zuI_1, zuI_2, zuJ_1, zuJ_2, zuJ_3, zuP_1, zuP_2, zuP_3, zuC_1, zuC_2, reduceIte, Nat.reduceEqDiff, false_and, and_false, true_and, and_true, and_self, or_true, true_or, or_false, false_or]; exact hR.1, fun q9 => absurd q9 hR.2.1, fun _ => by simp only [zuI_1, zuI_2, zuJ_1, zuJ_2, zuJ_3, zuP_1, zuP_2, zuP_3, zuC_1, zuC_2, reduceIte, Nat.reduceEqDiff, false_and, and_false, true_and, and_true, and_self, or_true, true_or, or_false, false_or]; exact hR.2.2⟩) | (rw [hc, hR.1]; exact ⟨by simp only [zuI_1, zuI_2, zuJ_1, zuJ_2, zuJ_3, zuP_1, zuP_2, zuP_3, zuC_1, zuC_2, reduceIte, Nat.reduceEqDiff, false_and, and_false, true_and, and_true, and_self, or_true, true_or, or_false, false_or]; exact hh2, fun q9 => (by first | (refine Or.inl ?_; simp only [zuI_1, zuI_2, zuJ_1, zuJ_2, zuJ_3, zuP_1, zuP_2, zuP_3, zuC_1, zuC_2, reduceIte, Nat.reduceEqDiff, false_and, and_false, true_and, and_true, and_self, or_true, true_or, or_false, false_or]; done) | (rcases hR.2.1 q9 with z | z; exact absurd z (by decide); refine Or.inr ⟨?_, ?_⟩; (simp only [zuI_1, zuI_2, zuJ_1, zuJ_2, zuJ_3, zuP_1, zuP_2, zuP_3, zuC_1, zuC_2, reduceIte, Nat.reduceEqDiff, false_and, and_false, true_and, and_true, and_self, or_true, true_or, or_false, false_or]); (simp only [zuI_1, zuI_2, zuJ_1, zuJ_2, zuJ_3, zuP_1, zuP_2, zuP_3, zuC_1, zuC_2, reduceIte, Nat.reduceEqDiff, false_and, and_false, true_and, and_true, and_self, or_true, true_or, or_false, false_or]; rw [hh5]; exact z.2))), by simp only [zuI_1, zuI_2, zuJ_1, zuJ_2, zuJ_3, zuP_1, zuP_2, zuP_3, zuC_1, zuC_2, reduceIte, Nat.reduceEqDiff, false_and, and_false, true_and, and_true, and_self, or_true, true_or, or_false, false_or]; rw [hh5]; exact hR.2.2⟩))⟩
              · skip
                refine zs_iload_n (pc := 163) C dX9_signToken_163 rfl ?_
                refine zs_if_eq (tgt := 171) (pc := 164) C dX9_signToken_164 (by decide) (fun h164 => ?_) (fun h164 => ?_)
                · skip
                  refine zs_iload_n (pc := 171) C dX9_signToken_171 rfl ?_
                  refine zs_if_eq (tgt := 179) (pc := 172) C dX9_signToken_172 (by decide) (fun h172 => ?_) (fun h172 => ?_)
                  · skip
                    have hR := sg_b (c := v9) (d := x1) (x2 := x2) (x3 := x3) (r := 0) h50_1 ⟨h96_0.1, h96_0.2⟩ ⟨h117_0.1, h117_0.2⟩ h135_1 (Or.inr (Or.inr (Or.inr (Or.inl ⟨by omega, by omega, by omega, rfl⟩))))
                    refine zs_iconst (pc := 179) C dX9_signToken_179 (by decide) ?_
                    refine zs_goto (tgt := 192) (pc := 180) C dX9_signToken_180 (by decide) ?_
                    refine zs_puti (r := 1009) (pc := 192) C dX9_signToken_192 w_X9_207 f_10_9 rfl (r_1009 0) (by omega) ?_
                    refine zs_goto (tgt := 290) (pc := 195) C dX9_signToken_195 (by decide) ?_
                    exact zs_vret (pc := 290) C hr hlk dX9_signToken_290 ⟨by repeat (first | exact zsm_rf | assumption | refine zsm_C (by decide) ?_ | refine zsm_I (by decide) ?_ | refine zsm_J ?_ | refine zsm_c (by assumption) (by decide) ?_), (by first | (rw [hc, ← h75_0]; exact ⟨by simp only [zuI_1, zuI_2, zuJ_1, zuJ_2, zuJ_3, zuP_1, zuP_2, zuP_3, zuC_1, zuC_2, reduceIte, Nat.reduceEqDiff, false_and, and_false, true_and, and_true, and_self, or_true, true_or, or_false, false_or]; exact hR.1, fun q9 => absurd q9 hR.2.1, fun _ => by simp only [zuI_1, zuI_2, zuJ_1, zuJ_2, zuJ_3, zuP_1, zuP_2, zuP_3, zuC_1, zuC_2, reduceIte, Nat.reduceEqDiff, false_and, and_false, true_and, and_true, and_self, or_true, true_or, or_false, false_or]; exact hR.2.2⟩) | (rw [hc, hR.1]; exact ⟨by simp only [zuI_1, zuI_2, zuJ_1, zuJ_2, zuJ_3, zuP_1, zuP_2, zuP_3, zuC_1, zuC_2, reduceIte, Nat.reduceEqDiff, false_and, and_false, true_and, and_true, and_self, or_true, true_or, or_false, false_or]; exact hh2, fun q9 => (by first | (refine Or.inl ?_; simp only [zuI_1, zuI_2, zuJ_1, zuJ_2, zuJ_3, zuP_1, zuP_2, zuP_3, zuC_1, zuC_2, reduceIte, Nat.reduceEqDiff, false_and, and_false, true_and, and_true, and_self, or_true, true_or, or_false, false_or]; done) | (rcases hR.2.1 q9 with z | z; exact absurd z (by decide); refine Or.inr ⟨?_, ?_⟩; (simp only [zuI_1, zuI_2, zuJ_1, zuJ_2, zuJ_3, zuP_1, zuP_2, zuP_3, zuC_1, zuC_2, reduceIte, Nat.reduceEqDiff, false_and, and_false, true_and, and_true, and_self, or_true, true_or, or_false, false_or]); (simp only [zuI_1, zuI_2, zuJ_1, zuJ_2, zuJ_3, zuP_1, zuP_2, zuP_3, zuC_1, zuC_2, reduceIte, Nat.reduceEqDiff, false_and, and_false, true_and, and_true, and_self, or_true, true_or, or_false, false_or]; rw [hh5]; exact z.2))), by simp only [zuI_1, zuI_2, zuJ_1, zuJ_2, zuJ_3, zuP_1, zuP_2, zuP_3, zuC_1, zuC_2, reduceIte, Nat.reduceEqDiff, false_and, and_false, true_and, and_true, and_self, or_true, true_or, or_false, false_or]; rw [hh5]; exact hR.2.2⟩))⟩
                  · skip
                    have hR := sg_b (c := v9) (d := x1) (x2 := x2) (x3 := x3) (r := 3) h50_1 ⟨h96_0.1, h96_0.2⟩ ⟨h117_0.1, h117_0.2⟩ h135_1 (Or.inr (Or.inr (Or.inl ⟨by omega, by omega, by omega, rfl⟩)))
                    refine zs_iconst (pc := 175) C dX9_signToken_175 (by decide) ?_
                    refine zs_goto (tgt := 192) (pc := 176) C dX9_signToken_176 (by decide) ?_
                    refine zs_puti (r := 1009) (pc := 192) C dX9_signToken_192 w_X9_207 f_10_9 rfl (r_1009 0) (by omega) ?_
                    refine zs_goto (tgt := 290) (pc := 195) C dX9_signToken_195 (by decide) ?_
                    exact zs_vret (pc := 290) C hr hlk dX9_signToken_290 ⟨by repeat (first | exact zsm_rf | assumption | refine zsm_C (by decide) ?_ | refine zsm_I (by decide) ?_ | refine zsm_J ?_ | refine zsm_c (by assumption) (by decide) ?_), (by first | (rw [hc, ← h75_0]; exact ⟨by simp only [zuI_1, zuI_2, zuJ_1, zuJ_2, zuJ_3, zuP_1, zuP_2, zuP_3, zuC_1, zuC_2, reduceIte, Nat.reduceEqDiff, false_and, and_false, true_and, and_true, and_self, or_true, true_or, or_false, false_or]; exact hR.1, fun q9 => absurd q9 hR.2.1, fun _ => by simp only [zuI_1, zuI_2, zuJ_1, zuJ_2, zuJ_3, zuP_1, zuP_2, zuP_3, zuC_1, zuC_2, reduceIte, Nat.reduceEqDiff, false_and, and_false, true_and, and_true, and_self, or_true, true_or, or_false, false_or]; exact hR.2.2⟩) | (rw [hc, hR.1]; exact ⟨by simp only [zuI_1, zuI_2, zuJ_1, zuJ_2, zuJ_3, zuP_1, zuP_2, zuP_3, zuC_1, zuC_2, reduceIte, Nat.reduceEqDiff, false_and, and_false, true_and, and_true, and_self, or_true, true_or, or_false, false_or]; exact hh2, fun q9 => (by first | (refine Or.inl ?_; simp only [zuI_1, zuI_2, zuJ_1, zuJ_2, zuJ_3, zuP_1, zuP_2, zuP_3, zuC_1, zuC_2, reduceIte, Nat.reduceEqDiff, false_and, and_false, true_and, and_true, and_self, or_true, true_or, or_false, false_or]; done) | (rcases hR.2.1 q9 with z | z; exact absurd z (by decide); refine Or.inr ⟨?_, ?_⟩; (simp only [zuI_1, zuI_2, zuJ_1, zuJ_2, zuJ_3, zuP_1, zuP_2, zuP_3, zuC_1, zuC_2, reduceIte, Nat.reduceEqDiff, false_and, and_false, true_and, and_true, and_self, or_true, true_or, or_false, false_or]); (simp only [zuI_1, zuI_2, zuJ_1, zuJ_2, zuJ_3, zuP_1, zuP_2, zuP_3, zuC_1, zuC_2, reduceIte, Nat.reduceEqDiff, false_and, and_false, true_and, and_true, and_self, or_true, true_or, or_false, false_or]; rw [hh5]; exact z.2))), by simp only [zuI_1, zuI_2, zuJ_1, zuJ_2, zuJ_3, zuP_1, zuP_2, zuP_3, zuC_1, zuC_2, reduceIte, Nat.reduceEqDiff, false_and, and_false, true_and, and_true, and_self, or_true, true_or, or_false, false_or]; rw [hh5]; exact hR.2.2⟩))⟩
                · skip
                  have hR := sg_b (c := v9) (d := x1) (x2 := x2) (x3 := x3) (r := 1) h50_1 ⟨h96_0.1, h96_0.2⟩ ⟨h117_0.1, h117_0.2⟩ h135_1 (Or.inr (Or.inl ⟨by omega, by omega, rfl⟩))
                  refine zs_iconst (pc := 167) C dX9_signToken_167 (by decide) ?_
                  refine zs_goto (tgt := 192) (pc := 168) C dX9_signToken_168 (by decide) ?_
                  refine zs_puti (r := 1009) (pc := 192) C dX9_signToken_192 w_X9_207 f_10_9 rfl (r_1009 0) (by omega) ?_
                  refine zs_goto (tgt := 290) (pc := 195) C dX9_signToken_195 (by decide) ?_
                  exact zs_vret (pc := 290) C hr hlk dX9_signToken_290 ⟨by repeat (first | exact zsm_rf | assumption | refine zsm_C (by decide) ?_ | refine zsm_I (by decide) ?_ | refine zsm_J ?_ | refine zsm_c (by assumption) (by decide) ?_), (by first | (rw [hc, ← h75_0]; exact ⟨by simp only [zuI_1, zuI_2, zuJ_1, zuJ_2, zuJ_3, zuP_1, zuP_2, zuP_3, zuC_1, zuC_2, reduceIte, Nat.reduceEqDiff, false_and, and_false, true_and, and_true, and_self, or_true, true_or, or_false, false_or]; exact hR.1, fun q9 => absurd q9 hR.2.1, fun _ => by simp only [zuI_1, zuI_2, zuJ_1, zuJ_2, zuJ_3, zuP_1, zuP_2, zuP_3, zuC_1, zuC_2, reduceIte, Nat.reduceEqDiff, false_and, and_false, true_and, and_true, and_self, or_true, true_or, or_false, false_or]; exact hR.2.2⟩) | (rw [hc, hR.1]; exact ⟨by simp only [zuI_1, zuI_2, zuJ_1, zuJ_2, zuJ_3, zuP_1, zuP_2, zuP_3, zuC_1, zuC_2, reduceIte, Nat.reduceEqDiff, false_and, and_false, true_and, and_true, and_self, or_true, true_or, or_false, false_or]; exact hh2, fun q9 => (by first | (refine Or.inl ?_; simp only [zuI_1, zuI_2, zuJ_1, zuJ_2, zuJ_3, zuP_1, zuP_2, zuP_3, zuC_1, zuC_2, reduceIte, Nat.reduceEqDiff, false_and, and_false, true_and, and_true, and_self, or_true, true_or, or_false, false_or]; done) | (rcases hR.2.1 q9 with z | z; exact absurd z (by decide); refine Or.inr ⟨?_, ?_⟩; (simp only [zuI_1, zuI_2, zuJ_1, zuJ_2, zuJ_3, zuP_1, zuP_2, zuP_3, zuC_1, zuC_2, reduceIte, Nat.reduceEqDiff, false_and, and_false, true_and, and_true, and_self, or_true, true_or, or_false, false_or]); (simp only [zuI_1, zuI_2, zuJ_1, zuJ_2, zuJ_3, zuP_1, zuP_2, zuP_3, zuC_1, zuC_2, reduceIte, Nat.reduceEqDiff, false_and, and_false, true_and, and_true, and_self, or_true, true_or, or_false, false_or]; rw [hh5]; exact z.2))), by simp only [zuI_1, zuI_2, zuJ_1, zuJ_2, zuJ_3, zuP_1, zuP_2, zuP_3, zuC_1, zuC_2, reduceIte, Nat.reduceEqDiff, false_and, and_false, true_and, and_true, and_self, or_true, true_or, or_false, false_or]; rw [hh5]; exact hR.2.2⟩))⟩
            · skip
              have hR := sg_b (c := v9) (d := x1) (x2 := x2) (x3 := x3) (r := 2) h50_1 ⟨h96_0.1, h96_0.2⟩ ⟨h117_0.1, h117_0.2⟩ h135_1 (Or.inl ⟨by omega, rfl⟩)
              refine zs_iconst (pc := 150) C dX9_signToken_150 (by decide) ?_
              refine zs_goto (tgt := 192) (pc := 151) C dX9_signToken_151 (by decide) ?_
              refine zs_puti (r := 1009) (pc := 192) C dX9_signToken_192 w_X9_207 f_10_9 rfl (r_1009 0) (by omega) ?_
              refine zs_goto (tgt := 290) (pc := 195) C dX9_signToken_195 (by decide) ?_
              exact zs_vret (pc := 290) C hr hlk dX9_signToken_290 ⟨by repeat (first | exact zsm_rf | assumption | refine zsm_C (by decide) ?_ | refine zsm_I (by decide) ?_ | refine zsm_J ?_ | refine zsm_c (by assumption) (by decide) ?_), (by first | (rw [hc, ← h75_0]; exact ⟨by simp only [zuI_1, zuI_2, zuJ_1, zuJ_2, zuJ_3, zuP_1, zuP_2, zuP_3, zuC_1, zuC_2, reduceIte, Nat.reduceEqDiff, false_and, and_false, true_and, and_true, and_self, or_true, true_or, or_false, false_or]; exact hR.1, fun q9 => absurd q9 hR.2.1, fun _ => by simp only [zuI_1, zuI_2, zuJ_1, zuJ_2, zuJ_3, zuP_1, zuP_2, zuP_3, zuC_1, zuC_2, reduceIte, Nat.reduceEqDiff, false_and, and_false, true_and, and_true, and_self, or_true, true_or, or_false, false_or]; exact hR.2.2⟩) | (rw [hc, hR.1]; exact ⟨by simp only [zuI_1, zuI_2, zuJ_1, zuJ_2, zuJ_3, zuP_1, zuP_2, zuP_3, zuC_1, zuC_2, reduceIte, Nat.reduceEqDiff, false_and, and_false, true_and, and_true, and_self, or_true, true_or, or_false, false_or]; exact hh2, fun q9 => (by first | (refine Or.inl ?_; simp only [zuI_1, zuI_2, zuJ_1, zuJ_2, zuJ_3, zuP_1, zuP_2, zuP_3, zuC_1, zuC_2, reduceIte, Nat.reduceEqDiff, false_and, and_false, true_and, and_true, and_self, or_true, true_or, or_false, false_or]; done) | (rcases hR.2.1 q9 with z | z; exact absurd z (by decide); refine Or.inr ⟨?_, ?_⟩; (simp only [zuI_1, zuI_2, zuJ_1, zuJ_2, zuJ_3, zuP_1, zuP_2, zuP_3, zuC_1, zuC_2, reduceIte, Nat.reduceEqDiff, false_and, and_false, true_and, and_true, and_self, or_true, true_or, or_false, false_or]); (simp only [zuI_1, zuI_2, zuJ_1, zuJ_2, zuJ_3, zuP_1, zuP_2, zuP_3, zuC_1, zuC_2, reduceIte, Nat.reduceEqDiff, false_and, and_false, true_and, and_true, and_self, or_true, true_or, or_false, false_or]; rw [hh5]; exact z.2))), by simp only [zuI_1, zuI_2, zuJ_1, zuJ_2, zuJ_3, zuP_1, zuP_2, zuP_3, zuC_1, zuC_2, reduceIte, Nat.reduceEqDiff, false_and, and_false, true_and, and_true, and_self, or_true, true_or, or_false, false_or]; rw [hh5]; exact hR.2.2⟩))⟩
          refine zs_if_ne (tgt := 125) (pc := 118) C dX9_signToken_118 (by decide) (fun h118 => ?_) (fun h118 => ?_)
          · skip
            refine zs_aload_n (pc := 125) C dX9_signToken_125 rfl ?_
            refine zs_dupa (pc := 126) C dX9_signToken_126 ?_
            refine zs_geti (r := 1007) (pc := 127) C dX9_signToken_127 w_X9_193 f_10_7 rfl (r_1007 0) (fun v127 e127 l127 u127 => ?_)
            refine zs_iconst (pc := 130) C dX9_signToken_130 (by decide) ?_
            first | refine zs_iadd (pc := 131) C dX9_signToken_131 (by omega) ?_ | refine zs_iaddF (pc := 131) C dX9_signToken_131 (fun z131 hz1311 hz1312 => ?_)
            refine zs_puti (r := 1007) (pc := 132) C dX9_signToken_132 w_X9_193 f_10_7 rfl (r_1007 0) (by omega) ?_
            exact zs_wk (J135 _ (by repeat (first | exact zsm_rf | assumption | refine zsm_C (by decide) ?_ | refine zsm_I (by decide) ?_ | refine zsm_J ?_ | refine zsm_c (by assumption) (by decide) ?_)) (by first | (simp only [zuI_1, zuI_2, zuJ_1, zuJ_2, zuJ_3, zuP_1, zuP_2, zuP_3, zuC_1, zuC_2, reduceIte, Nat.reduceEqDiff, false_and, and_false, true_and, and_true, and_self, or_true, true_or, or_false, false_or]; omega) | omega) (by first | (simp only [zuI_1, zuI_2, zuJ_1, zuJ_2, zuJ_3, zuP_1, zuP_2, zuP_3, zuC_1, zuC_2, reduceIte, Nat.reduceEqDiff, false_and, and_false, true_and, and_true, and_self, or_true, true_or, or_false, false_or]; omega) | omega)) (zwk_s rfl (zwk_s rfl (zwk_s rfl (zwk_s rfl zwk_0))))
          · skip
            refine zs_iload_n (pc := 121) C dX9_signToken_121 rfl ?_
            refine zs_if_eq (tgt := 135) (pc := 122) C dX9_signToken_122 (by decide) (fun h122 => ?_) (fun h122 => ?_)
            · skip
              exact zs_wk (J135 _ (by repeat (first | exact zsm_rf | assumption | refine zsm_C (by decide) ?_ | refine zsm_I (by decide) ?_ | refine zsm_J ?_ | refine zsm_c (by assumption) (by decide) ?_)) (by first | (simp only [zuI_1, zuI_2, zuJ_1, zuJ_2, zuJ_3, zuP_1, zuP_2, zuP_3, zuC_1, zuC_2, reduceIte, Nat.reduceEqDiff, false_and, and_false, true_and, and_true, and_self, or_true, true_or, or_false, false_or]; omega) | omega) (by first | (simp only [zuI_1, zuI_2, zuJ_1, zuJ_2, zuJ_3, zuP_1, zuP_2, zuP_3, zuC_1, zuC_2, reduceIte, Nat.reduceEqDiff, false_and, and_false, true_and, and_true, and_self, or_true, true_or, or_false, false_or]; omega) | omega)) (zwk_s rfl (zwk_s rfl (zwk_s rfl (zwk_s rfl zwk_0))))
            · skip
              refine zs_aload_n (pc := 125) C dX9_signToken_125 rfl ?_
              refine zs_dupa (pc := 126) C dX9_signToken_126 ?_
              refine zs_geti (r := 1007) (pc := 127) C dX9_signToken_127 w_X9_193 f_10_7 rfl (r_1007 0) (fun v127 e127 l127 u127 => ?_)
              refine zs_iconst (pc := 130) C dX9_signToken_130 (by decide) ?_
              first | refine zs_iadd (pc := 131) C dX9_signToken_131 (by omega) ?_ | refine zs_iaddF (pc := 131) C dX9_signToken_131 (fun z131 hz1311 hz1312 => ?_)
              refine zs_puti (r := 1007) (pc := 132) C dX9_signToken_132 w_X9_193 f_10_7 rfl (r_1007 0) (by omega) ?_
              exact zs_wk (J135 _ (by repeat (first | exact zsm_rf | assumption | refine zsm_C (by decide) ?_ | refine zsm_I (by decide) ?_ | refine zsm_J ?_ | refine zsm_c (by assumption) (by decide) ?_)) (by first | (simp only [zuI_1, zuI_2, zuJ_1, zuJ_2, zuJ_3, zuP_1, zuP_2, zuP_3, zuC_1, zuC_2, reduceIte, Nat.reduceEqDiff, false_and, and_false, true_and, and_true, and_self, or_true, true_or, or_false, false_or]; omega) | omega) (by first | (simp only [zuI_1, zuI_2, zuJ_1, zuJ_2, zuJ_3, zuP_1, zuP_2, zuP_3, zuC_1, zuC_2, reduceIte, Nat.reduceEqDiff, false_and, and_false, true_and, and_true, and_self, or_true, true_or, or_false, false_or]; omega) | omega)) (zwk_s rfl (zwk_s rfl (zwk_s rfl (zwk_s rfl zwk_0))))
        refine zs_geti (r := 1009) (pc := 97) C dX9_signToken_97 w_X9_207 f_10_9 rfl (r_1009 0) (fun v97 e97 l97 u97 => ?_)
        refine zs_bipush (pc := 100) C dX9_signToken_100 (by decide) (by decide) ?_
        refine zs_icmp_ne (tgt := 115) (pc := 102) C dX9_signToken_102 (by decide) (fun h102 => ?_) (fun h102 => ?_)
        · skip
          refine zs_iconst (pc := 115) C dX9_signToken_115 (by decide) ?_
          refine zs_istore_n (pc := 116) C dX9_signToken_116 (by decide) ?_
          dsimp only [zset, zclr, znone]
          exact zs_wk (J117 _ (by refine ⟨by omega, ?_⟩; unfold zif; omega) (by omega)) (zwk_s rfl (zwk_s rfl (zwk_s rfl (zwk_s rfl zwk_0))))
        · skip
          refine zs_iload_n (pc := 105) C dX9_signToken_105 rfl ?_
          refine zs_bipush (pc := 106) C dX9_signToken_106 (by decide) (by decide) ?_
          refine zs_icmp_ne (tgt := 115) (pc := 108) C dX9_signToken_108 (by decide) (fun h108 => ?_) (fun h108 => ?_)
          · skip
            refine zs_iconst (pc := 115) C dX9_signToken_115 (by decide) ?_
            refine zs_istore_n (pc := 116) C dX9_signToken_116 (by decide) ?_
            dsimp only [zset, zclr, znone]
            exact zs_wk (J117 _ (by refine ⟨by omega, ?_⟩; unfold zif; omega) (by omega)) (zwk_s rfl (zwk_s rfl (zwk_s rfl (zwk_s rfl zwk_0))))
          · skip
            refine zs_iconst (pc := 111) C dX9_signToken_111 (by decide) ?_
            refine zs_goto (tgt := 116) (pc := 112) C dX9_signToken_112 (by decide) ?_
            refine zs_istore_n (pc := 116) C dX9_signToken_116 (by decide) ?_
            dsimp only [zset, zclr, znone]
            exact zs_wk (J117 _ (by refine ⟨by omega, ?_⟩; unfold zif; omega) (by omega)) (zwk_s rfl (zwk_s rfl (zwk_s rfl (zwk_s rfl zwk_0))))
      refine zs_geti (r := 1009) (pc := 76) C dX9_signToken_76 w_X9_207 f_10_9 rfl (r_1009 0) (fun v76 e76 l76 u76 => ?_)
      refine zs_bipush (pc := 79) C dX9_signToken_79 (by decide) (by decide) ?_
      refine zs_icmp_eq (tgt := 94) (pc := 81) C dX9_signToken_81 (by decide) (fun h81 => ?_) (fun h81 => ?_)
      · skip
        refine zs_iconst (pc := 94) C dX9_signToken_94 (by decide) ?_
        refine zs_istore_n (pc := 95) C dX9_signToken_95 (by decide) ?_
        dsimp only [zset, zclr, znone]
        exact zs_wk (J96 _ (by refine ⟨by omega, ?_⟩; unfold zif; omega) (by omega)) (zwk_s rfl (zwk_s rfl (zwk_s rfl (zwk_n zwk_0))))
      · skip
        refine zs_iload_n (pc := 84) C dX9_signToken_84 rfl ?_
        refine zs_bipush (pc := 85) C dX9_signToken_85 (by decide) (by decide) ?_
        refine zs_icmp_ne (tgt := 94) (pc := 87) C dX9_signToken_87 (by decide) (fun h87 => ?_) (fun h87 => ?_)
        · skip
          refine zs_iconst (pc := 94) C dX9_signToken_94 (by decide) ?_
          refine zs_istore_n (pc := 95) C dX9_signToken_95 (by decide) ?_
          dsimp only [zset, zclr, znone]
          exact zs_wk (J96 _ (by refine ⟨by omega, ?_⟩; unfold zif; omega) (by omega)) (zwk_s rfl (zwk_s rfl (zwk_s rfl (zwk_n zwk_0))))
        · skip
          refine zs_iconst (pc := 90) C dX9_signToken_90 (by decide) ?_
          refine zs_goto (tgt := 95) (pc := 91) C dX9_signToken_91 (by decide) ?_
          refine zs_istore_n (pc := 95) C dX9_signToken_95 (by decide) ?_
          dsimp only [zset, zclr, znone]
          exact zs_wk (J96 _ (by refine ⟨by omega, ?_⟩; unfold zif; omega) (by omega)) (zwk_s rfl (zwk_s rfl (zwk_s rfl (zwk_n zwk_0))))
    refine zs_geti (r := 1007) (pc := 51) C dX9_signToken_51 w_X9_193 f_10_7 rfl (r_1007 0) (fun v51 e51 l51 u51 => ?_)
    refine zs_aload_n (pc := 54) C dX9_signToken_54 rfl ?_
    refine zs_geti (r := 1006) (pc := 55) C dX9_signToken_55 w_X9_190 f_10_6 rfl (r_1006 0) (fun v55 e55 l55 u55 => ?_)
    refine zs_icmp_ge (tgt := 73) (pc := 58) C dX9_signToken_58 (by decide) (fun h58 => ?_) (fun h58 => ?_)
    · skip
      refine zs_iconst (pc := 73) C dX9_signToken_73 (by decide) ?_
      refine zs_istore_n (pc := 74) C dX9_signToken_74 (by decide) ?_
      dsimp only [zset, zclr, znone]
      exact zs_wk (J75 _ (by unfold bh; first | (rw [if_pos (by omega), e69, hh1.1 2057 (by decide), show v66 = G.1 1007 w 0 + 1 by omega]) | rw [if_neg (by omega)]) (by omega)) (zwk_s rfl (zwk_s rfl (zwk_n (zwk_n zwk_0))))
    · skip
      refine zs_aload_n (pc := 61) C dX9_signToken_61 rfl ?_
      refine zs_getf (pc := 62) C dX9_signToken_62 w_X9_7 f_10_0 (by decide) ?_
      refine zs_aload_n (pc := 65) C dX9_signToken_65 rfl ?_
      refine zs_geti (r := 1007) (pc := 66) C dX9_signToken_66 w_X9_193 f_10_7 rfl (r_1007 0) (fun v66 e66 l66 u66 => ?_)
      refine zs_iald (r := 2057) (pc := 69) C dX9_signToken_69 a_57 (by decide) (by omega) rfl (r_2057 _) (fun v69 e69 l69 u69 => ?_)
      refine zs_goto (tgt := 74) (pc := 70) C dX9_signToken_70 (by decide) ?_
      refine zs_istore_n (pc := 74) C dX9_signToken_74 (by decide) ?_
      dsimp only [zset, zclr, znone]
      exact zs_wk (J75 _ (by unfold bh; first | (rw [if_pos (by omega), e69, hh1.1 2057 (by decide), show v66 = G.1 1007 w 0 + 1 by omega]) | rw [if_neg (by omega)]) (by omega)) (zwk_s rfl (zwk_s rfl (zwk_n (zwk_n zwk_0))))
  refine zs_geti (r := 1009) (pc := 24) C dX9_signToken_24 w_X9_207 f_10_9 rfl (r_1009 0) (fun v24 e24 l24 u24 => ?_)
  try simp only [zuI_1, zuI_2, zuJ_1, zuJ_2, zuJ_3, zuP_1, zuP_2, zuP_3, zuC_1, zuC_2, reduceIte, Nat.reduceEqDiff, false_and, and_false, true_and, and_true, and_self, or_true, true_or, or_false, false_or] at e24
  refine zs_bipush (pc := 27) C dX9_signToken_27 (by decide) (by decide) ?_
  refine zs_icmp_eq (tgt := 50) (pc := 29) C dX9_signToken_29 (by decide) (fun h29 => ?_) (fun h29 => ?_)
  · skip
    exact zs_wk (J50 _ rfl (by omega)) (zwk_s rfl (zwk_n (zwk_n (zwk_n zwk_0))))
  · skip
    refine zs_aload_n (pc := 32) C dX9_signToken_32 rfl ?_
    refine zs_geti (r := 1009) (pc := 33) C dX9_signToken_33 w_X9_207 f_10_9 rfl (r_1009 0) (fun v33 e33 l33 u33 => ?_)
    try simp only [zuI_1, zuI_2, zuJ_1, zuJ_2, zuJ_3, zuP_1, zuP_2, zuP_3, zuC_1, zuC_2, reduceIte, Nat.reduceEqDiff, false_and, and_false, true_and, and_true, and_self, or_true, true_or, or_false, false_or] at e33
    refine zs_bipush (pc := 36) C dX9_signToken_36 (by decide) (by decide) ?_
    refine zs_icmp_eq (tgt := 50) (pc := 38) C dX9_signToken_38 (by decide) (fun h38 => ?_) (fun h38 => ?_)
    · skip
      exact zs_wk (J50 _ rfl (by omega)) (zwk_s rfl (zwk_n (zwk_n (zwk_n zwk_0))))
    · skip
      refine zs_aload_n (pc := 41) C dX9_signToken_41 rfl ?_
      refine zs_geti (r := 1009) (pc := 42) C dX9_signToken_42 w_X9_207 f_10_9 rfl (r_1009 0) (fun v42 e42 l42 u42 => ?_)
      try simp only [zuI_1, zuI_2, zuJ_1, zuJ_2, zuJ_3, zuP_1, zuP_2, zuP_3, zuC_1, zuC_2, reduceIte, Nat.reduceEqDiff, false_and, and_false, true_and, and_true, and_self, or_true, true_or, or_false, false_or] at e42
      refine zs_bipush (pc := 45) C dX9_signToken_45 (by decide) (by decide) ?_
      refine zs_icmp_ne (tgt := 198) (pc := 47) C dX9_signToken_47 (by decide) (fun h47 => ?_) (fun h47 => ?_)
      · skip
        have hne : v9 ≠ 60 ∧ v9 ≠ 61 ∧ v9 ≠ 62 := by omega
        refine zs_aload_n (pc := 198) C dX9_signToken_198 rfl ?_
        have J276 : ∀ (x1 : Int), ((x1 = 0 ∨ x1 = 1) ∧ zif (x1 = 1) (v9 = 59 ∨ v9 = 40 ∨ v9 = 41 ∨ v9 = 43 ∨ v9 = 45 ∨ v9 = 42 ∨ v9 = 47 ∨ v9 = 37)) → Z p l e (zrm 0) s m args below meth c Γ 4 0 0 (MQ below (zQc Γ (zpv (fun G' => zsm [1007, 1008, 1009] G G' ∧ (G'.1 1007 w 0 = G.1 1007 w 0 + sgW ((G.1 2057 (Γ.2.1 w 0)) (G.1 1007 w 0).toNat) (bh (G.1 2057 (Γ.2.1 w 0)) (G.1 1006 w 0) (G.1 1007 w 0)) ∧ (sgV ((G.1 2057 (Γ.2.1 w 0)) (G.1 1007 w 0).toNat) (bh (G.1 2057 (Γ.2.1 w 0)) (G.1 1006 w 0) (G.1 1007 w 0)) = 0 → G'.1 1008 w 0 = 6 ∨ (G'.1 1008 w 0 = 4 ∧ G'.1 1009 w 0 = 37)) ∧ (sgV ((G.1 2057 (Γ.2.1 w 0)) (G.1 1007 w 0).toNat) (bh (G.1 2057 (Γ.2.1 w 0)) (G.1 1006 w 0) (G.1 1007 w 0)) ≠ 0 → sgM (sgV ((G.1 2057 (Γ.2.1 w 0)) (G.1 1007 w 0).toNat) (bh (G.1 2057 (Γ.2.1 w 0)) (G.1 1006 w 0) (G.1 1007 w 0))) (G'.1 1008 w 0) (G'.1 1009 w 0)))))) args s 0 0 (zA Γ)) 276 [some (zr 10 w), some (zi x1), none, none] [] G1 := by
          intro x1 h276_0
          refine zs_aload_n (pc := 276) C dX9_signToken_276 rfl ?_
          refine zs_iload_n (pc := 277) C dX9_signToken_277 rfl ?_
          refine zs_if_eq (tgt := 285) (pc := 278) C dX9_signToken_278 (by decide) (fun h278 => ?_) (fun h278 => ?_)
          · skip
            have hR := sg_a (c := v9) (d := bh (G.1 2057 (Γ.2.1 w 0)) (G.1 1006 w 0) (G.1 1007 w 0)) (k := 6) hne (Or.inr ⟨rfl, fun q9 => by have q7 : x1 = 1 := h276_0.2.mpr q9; clear q9; omega⟩)
            refine zs_bipush (pc := 285) C dX9_signToken_285 (by decide) (by decide) ?_
            refine zs_puti (r := 1008) (pc := 287) C dX9_signToken_287 w_X9_196 f_10_8 rfl (r_1008 0) (by omega) ?_
            exact zs_vret (pc := 290) C hr hlk dX9_signToken_290 ⟨by repeat (first | exact zsm_rf | assumption | refine zsm_C (by decide) ?_ | refine zsm_I (by decide) ?_ | refine zsm_J ?_ | refine zsm_c (by assumption) (by decide) ?_), (by first | (rw [hc, ← h75_0]; exact ⟨by simp only [zuI_1, zuI_2, zuJ_1, zuJ_2, zuJ_3, zuP_1, zuP_2, zuP_3, zuC_1, zuC_2, reduceIte, Nat.reduceEqDiff, false_and, and_false, true_and, and_true, and_self, or_true, true_or, or_false, false_or]; exact hR.1, fun q9 => absurd q9 hR.2.1, fun _ => by simp only [zuI_1, zuI_2, zuJ_1, zuJ_2, zuJ_3, zuP_1, zuP_2, zuP_3, zuC_1, zuC_2, reduceIte, Nat.reduceEqDiff, false_and, and_false, true_and, and_true, and_self, or_true, true_or, or_false, false_or]; exact hR.2.2⟩) | (rw [hc, hR.1]; exact ⟨by simp only [zuI_1, zuI_2, zuJ_1, zuJ_2, zuJ_3, zuP_1, zuP_2, zuP_3, zuC_1, zuC_2, reduceIte, Nat.reduceEqDiff, false_and, and_false, true_and, and_true, and_self, or_true, true_or, or_false, false_or]; exact hh2, fun q9 => (by first | (refine Or.inl ?_; simp only [zuI_1, zuI_2, zuJ_1, zuJ_2, zuJ_3, zuP_1, zuP_2, zuP_3, zuC_1, zuC_2, reduceIte, Nat.reduceEqDiff, false_and, and_false, true_and, and_true, and_self, or_true, true_or, or_false, false_or]; done) | (rcases hR.2.1 q9 with z | z; exact absurd z (by decide); refine Or.inr ⟨?_, ?_⟩; (simp only [zuI_1, zuI_2, zuJ_1, zuJ_2, zuJ_3, zuP_1, zuP_2, zuP_3, zuC_1, zuC_2, reduceIte, Nat.reduceEqDiff, false_and, and_false, true_and, and_true, and_self, or_true, true_or, or_false, false_or]); (simp only [zuI_1, zuI_2, zuJ_1, zuJ_2, zuJ_3, zuP_1, zuP_2, zuP_3, zuC_1, zuC_2, reduceIte, Nat.reduceEqDiff, false_and, and_false, true_and, and_true, and_self, or_true, true_or, or_false, false_or]; rw [hh5]; exact z.2))), by simp only [zuI_1, zuI_2, zuJ_1, zuJ_2, zuJ_3, zuP_1, zuP_2, zuP_3, zuC_1, zuC_2, reduceIte, Nat.reduceEqDiff, false_and, and_false, true_and, and_true, and_self, or_true, true_or, or_false, false_or]; rw [hh5]; exact hR.2.2⟩))⟩
          · skip
            have hR := sg_a (c := v9) (d := bh (G.1 2057 (Γ.2.1 w 0)) (G.1 1006 w 0) (G.1 1007 w 0)) (k := 4) hne (Or.inl ⟨rfl, h276_0.2.mp (by omega)⟩)
            refine zs_iconst (pc := 281) C dX9_signToken_281 (by decide) ?_
            refine zs_goto (tgt := 287) (pc := 282) C dX9_signToken_282 (by decide) ?_
            refine zs_puti (r := 1008) (pc := 287) C dX9_signToken_287 w_X9_196 f_10_8 rfl (r_1008 0) (by omega) ?_
            exact zs_vret (pc := 290) C hr hlk dX9_signToken_290 ⟨by repeat (first | exact zsm_rf | assumption | refine zsm_C (by decide) ?_ | refine zsm_I (by decide) ?_ | refine zsm_J ?_ | refine zsm_c (by assumption) (by decide) ?_), (by first | (rw [hc, ← h75_0]; exact ⟨by simp only [zuI_1, zuI_2, zuJ_1, zuJ_2, zuJ_3, zuP_1, zuP_2, zuP_3, zuC_1, zuC_2, reduceIte, Nat.reduceEqDiff, false_and, and_false, true_and, and_true, and_self, or_true, true_or, or_false, false_or]; exact hR.1, fun q9 => absurd q9 hR.2.1, fun _ => by simp only [zuI_1, zuI_2, zuJ_1, zuJ_2, zuJ_3, zuP_1, zuP_2, zuP_3, zuC_1, zuC_2, reduceIte, Nat.reduceEqDiff, false_and, and_false, true_and, and_true, and_self, or_true, true_or, or_false, false_or]; exact hR.2.2⟩) | (rw [hc, hR.1]; exact ⟨by simp only [zuI_1, zuI_2, zuJ_1, zuJ_2, zuJ_3, zuP_1, zuP_2, zuP_3, zuC_1, zuC_2, reduceIte, Nat.reduceEqDiff, false_and, and_false, true_and, and_true, and_self, or_true, true_or, or_false, false_or]; exact hh2, fun q9 => (by first | (refine Or.inl ?_; simp only [zuI_1, zuI_2, zuJ_1, zuJ_2, zuJ_3, zuP_1, zuP_2, zuP_3, zuC_1, zuC_2, reduceIte, Nat.reduceEqDiff, false_and, and_false, true_and, and_true, and_self, or_true, true_or, or_false, false_or]; done) | (rcases hR.2.1 q9 with z | z; exact absurd z (by decide); refine Or.inr ⟨?_, ?_⟩; (simp only [zuI_1, zuI_2, zuJ_1, zuJ_2, zuJ_3, zuP_1, zuP_2, zuP_3, zuC_1, zuC_2, reduceIte, Nat.reduceEqDiff, false_and, and_false, true_and, and_true, and_self, or_true, true_or, or_false, false_or]); (simp only [zuI_1, zuI_2, zuJ_1, zuJ_2, zuJ_3, zuP_1, zuP_2, zuP_3, zuC_1, zuC_2, reduceIte, Nat.reduceEqDiff, false_and, and_false, true_and, and_true, and_self, or_true, true_or, or_false, false_or]; rw [hh5]; exact z.2))), by simp only [zuI_1, zuI_2, zuJ_1, zuJ_2, zuJ_3, zuP_1, zuP_2, zuP_3, zuC_1, zuC_2, reduceIte, Nat.reduceEqDiff, false_and, and_false, true_and, and_true, and_self, or_true, true_or, or_false, false_or]; rw [hh5]; exact hR.2.2⟩))⟩
        refine zs_geti (r := 1009) (pc := 199) C dX9_signToken_199 w_X9_207 f_10_9 rfl (r_1009 0) (fun v199 e199 l199 u199 => ?_)
        try simp only [zuI_1, zuI_2, zuJ_1, zuJ_2, zuJ_3, zuP_1, zuP_2, zuP_3, zuC_1, zuC_2, reduceIte, Nat.reduceEqDiff, false_and, and_false, true_and, and_true, and_self, or_true, true_or, or_false, false_or] at e199
        refine zs_bipush (pc := 202) C dX9_signToken_202 (by decide) (by decide) ?_
        refine zs_icmp_eq (tgt := 270) (pc := 204) C dX9_signToken_204 (by decide) (fun h204 => ?_) (fun h204 => ?_)
        · skip
          refine zs_iconst (pc := 270) C dX9_signToken_270 (by decide) ?_
          refine zs_goto (tgt := 275) (pc := 271) C dX9_signToken_271 (by decide) ?_
          refine zs_istore_n (pc := 275) C dX9_signToken_275 (by decide) ?_
          dsimp only [zset, zclr, znone]
          exact zs_wk (J276 _ (by first | exact ⟨Or.inr rfl, fun _ => Or.inl (hh5.symm.trans (e199.symm.trans h204)), fun _ => rfl⟩ | exact ⟨Or.inr rfl, fun _ => Or.inr (Or.inl (hh5.symm.trans (e208.symm.trans h213))), fun _ => rfl⟩ | exact ⟨Or.inr rfl, fun _ => Or.inr (Or.inr (Or.inl (hh5.symm.trans (e217.symm.trans h222)))), fun _ => rfl⟩ | exact ⟨Or.inr rfl, fun _ => Or.inr (Or.inr (Or.inr (Or.inl (hh5.symm.trans (e226.symm.trans h231))))), fun _ => rfl⟩ | exact ⟨Or.inr rfl, fun _ => Or.inr (Or.inr (Or.inr (Or.inr (Or.inl (hh5.symm.trans (e235.symm.trans h240)))))), fun _ => rfl⟩ | exact ⟨Or.inr rfl, fun _ => Or.inr (Or.inr (Or.inr (Or.inr (Or.inr (Or.inl (hh5.symm.trans (e244.symm.trans h249))))))), fun _ => rfl⟩ | exact ⟨Or.inr rfl, fun _ => Or.inr (Or.inr (Or.inr (Or.inr (Or.inr (Or.inr (Or.inl (hh5.symm.trans (e253.symm.trans h258)))))))), fun _ => rfl⟩ | exact ⟨Or.inr rfl, fun _ => Or.inr (Or.inr (Or.inr (Or.inr (Or.inr (Or.inr (Or.inr (hh5.symm.trans (e262.symm.trans h267)))))))), fun _ => rfl⟩ | exact ⟨Or.inl rfl, fun q => absurd q (by decide), fun q => by rcases q with q | q | q | q | q | q | q | q; exact absurd (e199.trans (hh5.trans q)) h204; exact absurd (e208.trans (hh5.trans q)) h213; exact absurd (e217.trans (hh5.trans q)) h222; exact absurd (e226.trans (hh5.trans q)) h231; exact absurd (e235.trans (hh5.trans q)) h240; exact absurd (e244.trans (hh5.trans q)) h249; exact absurd (e253.trans (hh5.trans q)) h258; exact absurd (e262.trans (hh5.trans q)) h267⟩)) (zwk_s rfl (zwk_s rfl (zwk_n (zwk_n zwk_0))))
        · skip
          refine zs_aload_n (pc := 207) C dX9_signToken_207 rfl ?_
          refine zs_geti (r := 1009) (pc := 208) C dX9_signToken_208 w_X9_207 f_10_9 rfl (r_1009 0) (fun v208 e208 l208 u208 => ?_)
          try simp only [zuI_1, zuI_2, zuJ_1, zuJ_2, zuJ_3, zuP_1, zuP_2, zuP_3, zuC_1, zuC_2, reduceIte, Nat.reduceEqDiff, false_and, and_false, true_and, and_true, and_self, or_true, true_or, or_false, false_or] at e208
          refine zs_bipush (pc := 211) C dX9_signToken_211 (by decide) (by decide) ?_
          refine zs_icmp_eq (tgt := 270) (pc := 213) C dX9_signToken_213 (by decide) (fun h213 => ?_) (fun h213 => ?_)
          · skip
            refine zs_iconst (pc := 270) C dX9_signToken_270 (by decide) ?_
            refine zs_goto (tgt := 275) (pc := 271) C dX9_signToken_271 (by decide) ?_
            refine zs_istore_n (pc := 275) C dX9_signToken_275 (by decide) ?_
            dsimp only [zset, zclr, znone]
            exact zs_wk (J276 _ (by first | exact ⟨Or.inr rfl, fun _ => Or.inl (hh5.symm.trans (e199.symm.trans h204)), fun _ => rfl⟩ | exact ⟨Or.inr rfl, fun _ => Or.inr (Or.inl (hh5.symm.trans (e208.symm.trans h213))), fun _ => rfl⟩ | exact ⟨Or.inr rfl, fun _ => Or.inr (Or.inr (Or.inl (hh5.symm.trans (e217.symm.trans h222)))), fun _ => rfl⟩ | exact ⟨Or.inr rfl, fun _ => Or.inr (Or.inr (Or.inr (Or.inl (hh5.symm.trans (e226.symm.trans h231))))), fun _ => rfl⟩ | exact ⟨Or.inr rfl, fun _ => Or.inr (Or.inr (Or.inr (Or.inr (Or.inl (hh5.symm.trans (e235.symm.trans h240)))))), fun _ => rfl⟩ | exact ⟨Or.inr rfl, fun _ => Or.inr (Or.inr (Or.inr (Or.inr (Or.inr (Or.inl (hh5.symm.trans (e244.symm.trans h249))))))), fun _ => rfl⟩ | exact ⟨Or.inr rfl, fun _ => Or.inr (Or.inr (Or.inr (Or.inr (Or.inr (Or.inr (Or.inl (hh5.symm.trans (e253.symm.trans h258)))))))), fun _ => rfl⟩ | exact ⟨Or.inr rfl, fun _ => Or.inr (Or.inr (Or.inr (Or.inr (Or.inr (Or.inr (Or.inr (hh5.symm.trans (e262.symm.trans h267)))))))), fun _ => rfl⟩ | exact ⟨Or.inl rfl, fun q => absurd q (by decide), fun q => by rcases q with q | q | q | q | q | q | q | q; exact absurd (e199.trans (hh5.trans q)) h204; exact absurd (e208.trans (hh5.trans q)) h213; exact absurd (e217.trans (hh5.trans q)) h222; exact absurd (e226.trans (hh5.trans q)) h231; exact absurd (e235.trans (hh5.trans q)) h240; exact absurd (e244.trans (hh5.trans q)) h249; exact absurd (e253.trans (hh5.trans q)) h258; exact absurd (e262.trans (hh5.trans q)) h267⟩)) (zwk_s rfl (zwk_s rfl (zwk_n (zwk_n zwk_0))))
          · skip
            refine zs_aload_n (pc := 216) C dX9_signToken_216 rfl ?_
            refine zs_geti (r := 1009) (pc := 217) C dX9_signToken_217 w_X9_207 f_10_9 rfl (r_1009 0) (fun v217 e217 l217 u217 => ?_)
            try simp only [zuI_1, zuI_2, zuJ_1, zuJ_2, zuJ_3, zuP_1, zuP_2, zuP_3, zuC_1, zuC_2, reduceIte, Nat.reduceEqDiff, false_and, and_false, true_and, and_true, and_self, or_true, true_or, or_false, false_or] at e217
            refine zs_bipush (pc := 220) C dX9_signToken_220 (by decide) (by decide) ?_
            refine zs_icmp_eq (tgt := 270) (pc := 222) C dX9_signToken_222 (by decide) (fun h222 => ?_) (fun h222 => ?_)
            · skip
              refine zs_iconst (pc := 270) C dX9_signToken_270 (by decide) ?_
              refine zs_goto (tgt := 275) (pc := 271) C dX9_signToken_271 (by decide) ?_
              refine zs_istore_n (pc := 275) C dX9_signToken_275 (by decide) ?_
              dsimp only [zset, zclr, znone]
              exact zs_wk (J276 _ (by first | exact ⟨Or.inr rfl, fun _ => Or.inl (hh5.symm.trans (e199.symm.trans h204)), fun _ => rfl⟩ | exact ⟨Or.inr rfl, fun _ => Or.inr (Or.inl (hh5.symm.trans (e208.symm.trans h213))), fun _ => rfl⟩ | exact ⟨Or.inr rfl, fun _ => Or.inr (Or.inr (Or.inl (hh5.symm.trans (e217.symm.trans h222)))), fun _ => rfl⟩ | exact ⟨Or.inr rfl, fun _ => Or.inr (Or.inr (Or.inr (Or.inl (hh5.symm.trans (e226.symm.trans h231))))), fun _ => rfl⟩ | exact ⟨Or.inr rfl, fun _ => Or.inr (Or.inr (Or.inr (Or.inr (Or.inl (hh5.symm.trans (e235.symm.trans h240)))))), fun _ => rfl⟩ | exact ⟨Or.inr rfl, fun _ => Or.inr (Or.inr (Or.inr (Or.inr (Or.inr (Or.inl (hh5.symm.trans (e244.symm.trans h249))))))), fun _ => rfl⟩ | exact ⟨Or.inr rfl, fun _ => Or.inr (Or.inr (Or.inr (Or.inr (Or.inr (Or.inr (Or.inl (hh5.symm.trans (e253.symm.trans h258)))))))), fun _ => rfl⟩ | exact ⟨Or.inr rfl, fun _ => Or.inr (Or.inr (Or.inr (Or.inr (Or.inr (Or.inr (Or.inr (hh5.symm.trans (e262.symm.trans h267)))))))), fun _ => rfl⟩ | exact ⟨Or.inl rfl, fun q => absurd q (by decide), fun q => by rcases q with q | q | q | q | q | q | q | q; exact absurd (e199.trans (hh5.trans q)) h204; exact absurd (e208.trans (hh5.trans q)) h213; exact absurd (e217.trans (hh5.trans q)) h222; exact absurd (e226.trans (hh5.trans q)) h231; exact absurd (e235.trans (hh5.trans q)) h240; exact absurd (e244.trans (hh5.trans q)) h249; exact absurd (e253.trans (hh5.trans q)) h258; exact absurd (e262.trans (hh5.trans q)) h267⟩)) (zwk_s rfl (zwk_s rfl (zwk_n (zwk_n zwk_0))))
            · skip
              refine zs_aload_n (pc := 225) C dX9_signToken_225 rfl ?_
              refine zs_geti (r := 1009) (pc := 226) C dX9_signToken_226 w_X9_207 f_10_9 rfl (r_1009 0) (fun v226 e226 l226 u226 => ?_)
              try simp only [zuI_1, zuI_2, zuJ_1, zuJ_2, zuJ_3, zuP_1, zuP_2, zuP_3, zuC_1, zuC_2, reduceIte, Nat.reduceEqDiff, false_and, and_false, true_and, and_true, and_self, or_true, true_or, or_false, false_or] at e226
              refine zs_bipush (pc := 229) C dX9_signToken_229 (by decide) (by decide) ?_
              refine zs_icmp_eq (tgt := 270) (pc := 231) C dX9_signToken_231 (by decide) (fun h231 => ?_) (fun h231 => ?_)
              · skip
                refine zs_iconst (pc := 270) C dX9_signToken_270 (by decide) ?_
                refine zs_goto (tgt := 275) (pc := 271) C dX9_signToken_271 (by decide) ?_
                refine zs_istore_n (pc := 275) C dX9_signToken_275 (by decide) ?_
                dsimp only [zset, zclr, znone]
                exact zs_wk (J276 _ (by first | exact ⟨Or.inr rfl, fun _ => Or.inl (hh5.symm.trans (e199.symm.trans h204)), fun _ => rfl⟩ | exact ⟨Or.inr rfl, fun _ => Or.inr (Or.inl (hh5.symm.trans (e208.symm.trans h213))), fun _ => rfl⟩ | exact ⟨Or.inr rfl, fun _ => Or.inr (Or.inr (Or.inl (hh5.symm.trans (e217.symm.trans h222)))), fun _ => rfl⟩ | exact ⟨Or.inr rfl, fun _ => Or.inr (Or.inr (Or.inr (Or.inl (hh5.symm.trans (e226.symm.trans h231))))), fun _ => rfl⟩ | exact ⟨Or.inr rfl, fun _ => Or.inr (Or.inr (Or.inr (Or.inr (Or.inl (hh5.symm.trans (e235.symm.trans h240)))))), fun _ => rfl⟩ | exact ⟨Or.inr rfl, fun _ => Or.inr (Or.inr (Or.inr (Or.inr (Or.inr (Or.inl (hh5.symm.trans (e244.symm.trans h249))))))), fun _ => rfl⟩ | exact ⟨Or.inr rfl, fun _ => Or.inr (Or.inr (Or.inr (Or.inr (Or.inr (Or.inr (Or.inl (hh5.symm.trans (e253.symm.trans h258)))))))), fun _ => rfl⟩ | exact ⟨Or.inr rfl, fun _ => Or.inr (Or.inr (Or.inr (Or.inr (Or.inr (Or.inr (Or.inr (hh5.symm.trans (e262.symm.trans h267)))))))), fun _ => rfl⟩ | exact ⟨Or.inl rfl, fun q => absurd q (by decide), fun q => by rcases q with q | q | q | q | q | q | q | q; exact absurd (e199.trans (hh5.trans q)) h204; exact absurd (e208.trans (hh5.trans q)) h213; exact absurd (e217.trans (hh5.trans q)) h222; exact absurd (e226.trans (hh5.trans q)) h231; exact absurd (e235.trans (hh5.trans q)) h240; exact absurd (e244.trans (hh5.trans q)) h249; exact absurd (e253.trans (hh5.trans q)) h258; exact absurd (e262.trans (hh5.trans q)) h267⟩)) (zwk_s rfl (zwk_s rfl (zwk_n (zwk_n zwk_0))))
              · skip
                refine zs_aload_n (pc := 234) C dX9_signToken_234 rfl ?_
                refine zs_geti (r := 1009) (pc := 235) C dX9_signToken_235 w_X9_207 f_10_9 rfl (r_1009 0) (fun v235 e235 l235 u235 => ?_)
                try simp only [zuI_1, zuI_2, zuJ_1, zuJ_2, zuJ_3, zuP_1, zuP_2, zuP_3, zuC_1, zuC_2, reduceIte, Nat.reduceEqDiff, false_and, and_false, true_and, and_true, and_self, or_true, true_or, or_false, false_or] at e235
                refine zs_bipush (pc := 238) C dX9_signToken_238 (by decide) (by decide) ?_
                refine zs_icmp_eq (tgt := 270) (pc := 240) C dX9_signToken_240 (by decide) (fun h240 => ?_) (fun h240 => ?_)
                · skip
                  refine zs_iconst (pc := 270) C dX9_signToken_270 (by decide) ?_
                  refine zs_goto (tgt := 275) (pc := 271) C dX9_signToken_271 (by decide) ?_
                  refine zs_istore_n (pc := 275) C dX9_signToken_275 (by decide) ?_
                  dsimp only [zset, zclr, znone]
                  exact zs_wk (J276 _ (by first | exact ⟨Or.inr rfl, fun _ => Or.inl (hh5.symm.trans (e199.symm.trans h204)), fun _ => rfl⟩ | exact ⟨Or.inr rfl, fun _ => Or.inr (Or.inl (hh5.symm.trans (e208.symm.trans h213))), fun _ => rfl⟩ | exact ⟨Or.inr rfl, fun _ => Or.inr (Or.inr (Or.inl (hh5.symm.trans (e217.symm.trans h222)))), fun _ => rfl⟩ | exact ⟨Or.inr rfl, fun _ => Or.inr (Or.inr (Or.inr (Or.inl (hh5.symm.trans (e226.symm.trans h231))))), fun _ => rfl⟩ | exact ⟨Or.inr rfl, fun _ => Or.inr (Or.inr (Or.inr (Or.inr (Or.inl (hh5.symm.trans (e235.symm.trans h240)))))), fun _ => rfl⟩ | exact ⟨Or.inr rfl, fun _ => Or.inr (Or.inr (Or.inr (Or.inr (Or.inr (Or.inl (hh5.symm.trans (e244.symm.trans h249))))))), fun _ => rfl⟩ | exact ⟨Or.inr rfl, fun _ => Or.inr (Or.inr (Or.inr (Or.inr (Or.inr (Or.inr (Or.inl (hh5.symm.trans (e253.symm.trans h258)))))))), fun _ => rfl⟩ | exact ⟨Or.inr rfl, fun _ => Or.inr (Or.inr (Or.inr (Or.inr (Or.inr (Or.inr (Or.inr (hh5.symm.trans (e262.symm.trans h267)))))))), fun _ => rfl⟩ | exact ⟨Or.inl rfl, fun q => absurd q (by decide), fun q => by rcases q with q | q | q | q | q | q | q | q; exact absurd (e199.trans (hh5.trans q)) h204; exact absurd (e208.trans (hh5.trans q)) h213; exact absurd (e217.trans (hh5.trans q)) h222; exact absurd (e226.trans (hh5.trans q)) h231; exact absurd (e235.trans (hh5.trans q)) h240; exact absurd (e244.trans (hh5.trans q)) h249; exact absurd (e253.trans (hh5.trans q)) h258; exact absurd (e262.trans (hh5.trans q)) h267⟩)) (zwk_s rfl (zwk_s rfl (zwk_n (zwk_n zwk_0))))
                · skip
                  refine zs_aload_n (pc := 243) C dX9_signToken_243 rfl ?_
                  refine zs_geti (r := 1009) (pc := 244) C dX9_signToken_244 w_X9_207 f_10_9 rfl (r_1009 0) (fun v244 e244 l244 u244 => ?_)
                  try simp only [zuI_1, zuI_2, zuJ_1, zuJ_2, zuJ_3, zuP_1, zuP_2, zuP_3, zuC_1, zuC_2, reduceIte, Nat.reduceEqDiff, false_and, and_false, true_and, and_true, and_self, or_true, true_or, or_false, false_or] at e244
                  refine zs_bipush (pc := 247) C dX9_signToken_247 (by decide) (by decide) ?_
                  refine zs_icmp_eq (tgt := 270) (pc := 249) C dX9_signToken_249 (by decide) (fun h249 => ?_) (fun h249 => ?_)
                  · skip
                    refine zs_iconst (pc := 270) C dX9_signToken_270 (by decide) ?_
                    refine zs_goto (tgt := 275) (pc := 271) C dX9_signToken_271 (by decide) ?_
                    refine zs_istore_n (pc := 275) C dX9_signToken_275 (by decide) ?_
                    dsimp only [zset, zclr, znone]
                    exact zs_wk (J276 _ (by first | exact ⟨Or.inr rfl, fun _ => Or.inl (hh5.symm.trans (e199.symm.trans h204)), fun _ => rfl⟩ | exact ⟨Or.inr rfl, fun _ => Or.inr (Or.inl (hh5.symm.trans (e208.symm.trans h213))), fun _ => rfl⟩ | exact ⟨Or.inr rfl, fun _ => Or.inr (Or.inr (Or.inl (hh5.symm.trans (e217.symm.trans h222)))), fun _ => rfl⟩ | exact ⟨Or.inr rfl, fun _ => Or.inr (Or.inr (Or.inr (Or.inl (hh5.symm.trans (e226.symm.trans h231))))), fun _ => rfl⟩ | exact ⟨Or.inr rfl, fun _ => Or.inr (Or.inr (Or.inr (Or.inr (Or.inl (hh5.symm.trans (e235.symm.trans h240)))))), fun _ => rfl⟩ | exact ⟨Or.inr rfl, fun _ => Or.inr (Or.inr (Or.inr (Or.inr (Or.inr (Or.inl (hh5.symm.trans (e244.symm.trans h249))))))), fun _ => rfl⟩ | exact ⟨Or.inr rfl, fun _ => Or.inr (Or.inr (Or.inr (Or.inr (Or.inr (Or.inr (Or.inl (hh5.symm.trans (e253.symm.trans h258)))))))), fun _ => rfl⟩ | exact ⟨Or.inr rfl, fun _ => Or.inr (Or.inr (Or.inr (Or.inr (Or.inr (Or.inr (Or.inr (hh5.symm.trans (e262.symm.trans h267)))))))), fun _ => rfl⟩ | exact ⟨Or.inl rfl, fun q => absurd q (by decide), fun q => by rcases q with q | q | q | q | q | q | q | q; exact absurd (e199.trans (hh5.trans q)) h204; exact absurd (e208.trans (hh5.trans q)) h213; exact absurd (e217.trans (hh5.trans q)) h222; exact absurd (e226.trans (hh5.trans q)) h231; exact absurd (e235.trans (hh5.trans q)) h240; exact absurd (e244.trans (hh5.trans q)) h249; exact absurd (e253.trans (hh5.trans q)) h258; exact absurd (e262.trans (hh5.trans q)) h267⟩)) (zwk_s rfl (zwk_s rfl (zwk_n (zwk_n zwk_0))))
                  · skip
                    refine zs_aload_n (pc := 252) C dX9_signToken_252 rfl ?_
                    refine zs_geti (r := 1009) (pc := 253) C dX9_signToken_253 w_X9_207 f_10_9 rfl (r_1009 0) (fun v253 e253 l253 u253 => ?_)
                    try simp only [zuI_1, zuI_2, zuJ_1, zuJ_2, zuJ_3, zuP_1, zuP_2, zuP_3, zuC_1, zuC_2, reduceIte, Nat.reduceEqDiff, false_and, and_false, true_and, and_true, and_self, or_true, true_or, or_false, false_or] at e253
                    refine zs_bipush (pc := 256) C dX9_signToken_256 (by decide) (by decide) ?_
                    refine zs_icmp_eq (tgt := 270) (pc := 258) C dX9_signToken_258 (by decide) (fun h258 => ?_) (fun h258 => ?_)
                    · skip
                      refine zs_iconst (pc := 270) C dX9_signToken_270 (by decide) ?_
                      refine zs_goto (tgt := 275) (pc := 271) C dX9_signToken_271 (by decide) ?_
                      refine zs_istore_n (pc := 275) C dX9_signToken_275 (by decide) ?_
                      dsimp only [zset, zclr, znone]
                      exact zs_wk (J276 _ (by first | exact ⟨Or.inr rfl, fun _ => Or.inl (hh5.symm.trans (e199.symm.trans h204)), fun _ => rfl⟩ | exact ⟨Or.inr rfl, fun _ => Or.inr (Or.inl (hh5.symm.trans (e208.symm.trans h213))), fun _ => rfl⟩ | exact ⟨Or.inr rfl, fun _ => Or.inr (Or.inr (Or.inl (hh5.symm.trans (e217.symm.trans h222)))), fun _ => rfl⟩ | exact ⟨Or.inr rfl, fun _ => Or.inr (Or.inr (Or.inr (Or.inl (hh5.symm.trans (e226.symm.trans h231))))), fun _ => rfl⟩ | exact ⟨Or.inr rfl, fun _ => Or.inr (Or.inr (Or.inr (Or.inr (Or.inl (hh5.symm.trans (e235.symm.trans h240)))))), fun _ => rfl⟩ | exact ⟨Or.inr rfl, fun _ => Or.inr (Or.inr (Or.inr (Or.inr (Or.inr (Or.inl (hh5.symm.trans (e244.symm.trans h249))))))), fun _ => rfl⟩ | exact ⟨Or.inr rfl, fun _ => Or.inr (Or.inr (Or.inr (Or.inr (Or.inr (Or.inr (Or.inl (hh5.symm.trans (e253.symm.trans h258)))))))), fun _ => rfl⟩ | exact ⟨Or.inr rfl, fun _ => Or.inr (Or.inr (Or.inr (Or.inr (Or.inr (Or.inr (Or.inr (hh5.symm.trans (e262.symm.trans h267)))))))), fun _ => rfl⟩ | exact ⟨Or.inl rfl, fun q => absurd q (by decide), fun q => by rcases q with q | q | q | q | q | q | q | q; exact absurd (e199.trans (hh5.trans q)) h204; exact absurd (e208.trans (hh5.trans q)) h213; exact absurd (e217.trans (hh5.trans q)) h222; exact absurd (e226.trans (hh5.trans q)) h231; exact absurd (e235.trans (hh5.trans q)) h240; exact absurd (e244.trans (hh5.trans q)) h249; exact absurd (e253.trans (hh5.trans q)) h258; exact absurd (e262.trans (hh5.trans q)) h267⟩)) (zwk_s rfl (zwk_s rfl (zwk_n (zwk_n zwk_0))))
                    · skip
                      refine zs_aload_n (pc := 261) C dX9_signToken_261 rfl ?_
                      refine zs_geti (r := 1009) (pc := 262) C dX9_signToken_262 w_X9_207 f_10_9 rfl (r_1009 0) (fun v262 e262 l262 u262 => ?_)
                      try simp only [zuI_1, zuI_2, zuJ_1, zuJ_2, zuJ_3, zuP_1, zuP_2, zuP_3, zuC_1, zuC_2, reduceIte, Nat.reduceEqDiff, false_and, and_false, true_and, and_true, and_self, or_true, true_or, or_false, false_or] at e262
                      refine zs_bipush (pc := 265) C dX9_signToken_265 (by decide) (by decide) ?_
                      refine zs_icmp_ne (tgt := 274) (pc := 267) C dX9_signToken_267 (by decide) (fun h267 => ?_) (fun h267 => ?_)
                      · skip
                        refine zs_iconst (pc := 274) C dX9_signToken_274 (by decide) ?_
                        refine zs_istore_n (pc := 275) C dX9_signToken_275 (by decide) ?_
                        dsimp only [zset, zclr, znone]
                        exact zs_wk (J276 _ (by first | exact ⟨Or.inr rfl, fun _ => Or.inl (hh5.symm.trans (e199.symm.trans h204)), fun _ => rfl⟩ | exact ⟨Or.inr rfl, fun _ => Or.inr (Or.inl (hh5.symm.trans (e208.symm.trans h213))), fun _ => rfl⟩ | exact ⟨Or.inr rfl, fun _ => Or.inr (Or.inr (Or.inl (hh5.symm.trans (e217.symm.trans h222)))), fun _ => rfl⟩ | exact ⟨Or.inr rfl, fun _ => Or.inr (Or.inr (Or.inr (Or.inl (hh5.symm.trans (e226.symm.trans h231))))), fun _ => rfl⟩ | exact ⟨Or.inr rfl, fun _ => Or.inr (Or.inr (Or.inr (Or.inr (Or.inl (hh5.symm.trans (e235.symm.trans h240)))))), fun _ => rfl⟩ | exact ⟨Or.inr rfl, fun _ => Or.inr (Or.inr (Or.inr (Or.inr (Or.inr (Or.inl (hh5.symm.trans (e244.symm.trans h249))))))), fun _ => rfl⟩ | exact ⟨Or.inr rfl, fun _ => Or.inr (Or.inr (Or.inr (Or.inr (Or.inr (Or.inr (Or.inl (hh5.symm.trans (e253.symm.trans h258)))))))), fun _ => rfl⟩ | exact ⟨Or.inr rfl, fun _ => Or.inr (Or.inr (Or.inr (Or.inr (Or.inr (Or.inr (Or.inr (hh5.symm.trans (e262.symm.trans h267)))))))), fun _ => rfl⟩ | exact ⟨Or.inl rfl, fun q => absurd q (by decide), fun q => by rcases q with q | q | q | q | q | q | q | q; exact absurd (e199.trans (hh5.trans q)) h204; exact absurd (e208.trans (hh5.trans q)) h213; exact absurd (e217.trans (hh5.trans q)) h222; exact absurd (e226.trans (hh5.trans q)) h231; exact absurd (e235.trans (hh5.trans q)) h240; exact absurd (e244.trans (hh5.trans q)) h249; exact absurd (e253.trans (hh5.trans q)) h258; exact absurd (e262.trans (hh5.trans q)) h267⟩)) (zwk_s rfl (zwk_s rfl (zwk_n (zwk_n zwk_0))))
                      · skip
                        refine zs_iconst (pc := 270) C dX9_signToken_270 (by decide) ?_
                        refine zs_goto (tgt := 275) (pc := 271) C dX9_signToken_271 (by decide) ?_
                        refine zs_istore_n (pc := 275) C dX9_signToken_275 (by decide) ?_
                        dsimp only [zset, zclr, znone]
                        exact zs_wk (J276 _ (by first | exact ⟨Or.inr rfl, fun _ => Or.inl (hh5.symm.trans (e199.symm.trans h204)), fun _ => rfl⟩ | exact ⟨Or.inr rfl, fun _ => Or.inr (Or.inl (hh5.symm.trans (e208.symm.trans h213))), fun _ => rfl⟩ | exact ⟨Or.inr rfl, fun _ => Or.inr (Or.inr (Or.inl (hh5.symm.trans (e217.symm.trans h222)))), fun _ => rfl⟩ | exact ⟨Or.inr rfl, fun _ => Or.inr (Or.inr (Or.inr (Or.inl (hh5.symm.trans (e226.symm.trans h231))))), fun _ => rfl⟩ | exact ⟨Or.inr rfl, fun _ => Or.inr (Or.inr (Or.inr (Or.inr (Or.inl (hh5.symm.trans (e235.symm.trans h240)))))), fun _ => rfl⟩ | exact ⟨Or.inr rfl, fun _ => Or.inr (Or.inr (Or.inr (Or.inr (Or.inr (Or.inl (hh5.symm.trans (e244.symm.trans h249))))))), fun _ => rfl⟩ | exact ⟨Or.inr rfl, fun _ => Or.inr (Or.inr (Or.inr (Or.inr (Or.inr (Or.inr (Or.inl (hh5.symm.trans (e253.symm.trans h258)))))))), fun _ => rfl⟩ | exact ⟨Or.inr rfl, fun _ => Or.inr (Or.inr (Or.inr (Or.inr (Or.inr (Or.inr (Or.inr (hh5.symm.trans (e262.symm.trans h267)))))))), fun _ => rfl⟩ | exact ⟨Or.inl rfl, fun q => absurd q (by decide), fun q => by rcases q with q | q | q | q | q | q | q | q; exact absurd (e199.trans (hh5.trans q)) h204; exact absurd (e208.trans (hh5.trans q)) h213; exact absurd (e217.trans (hh5.trans q)) h222; exact absurd (e226.trans (hh5.trans q)) h231; exact absurd (e235.trans (hh5.trans q)) h240; exact absurd (e244.trans (hh5.trans q)) h249; exact absurd (e253.trans (hh5.trans q)) h258; exact absurd (e262.trans (hh5.trans q)) h267⟩)) (zwk_s rfl (zwk_s rfl (zwk_n (zwk_n zwk_0))))
      · skip
        exact zs_wk (J50 _ rfl (by omega)) (zwk_s rfl (zwk_n (zwk_n (zwk_n zwk_0))))
