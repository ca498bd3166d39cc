set_option maxHeartbeats 4000000 in
set_option maxRecDepth 100000 in
theorem c_X9_tokenY {l : Launch} {Γ : zΓ} {G : zH} {w : Nat}  (hX : zXs Γ) (hn : G.1 1007 w 0 ≤ G.1 1006 w 0) : zMet l Γ yX9_token cX9_token 1 none 1 [zr 10 w] G (zpv (fun G' => zsm [1007, 1008, 1009, 1010] G G' ∧ LJr G G' ∧ (G'.1 1010 w 0 = (sk (G.1 2057 (Γ.2.1 w 0)) (G.1 1006 w 0) (G.1 1007 w 0)) ∧ G'.1 1007 w 0 = tkN (G.1 2057 (Γ.2.1 w 0)) (G.1 1006 w 0) (sk (G.1 2057 (Γ.2.1 w 0)) (G.1 1006 w 0) (G.1 1007 w 0)) ∧ tkM (tkK (G.1 2057 (Γ.2.1 w 0)) (G.1 1006 w 0) (sk (G.1 2057 (Γ.2.1 w 0)) (G.1 1006 w 0) (G.1 1007 w 0))) (tkV (G.1 2057 (Γ.2.1 w 0)) (G.1 1006 w 0) (sk (G.1 2057 (Γ.2.1 w 0)) (G.1 1006 w 0) (G.1 1007 w 0))) (G'.1 1008 w 0) (G'.1 1009 w 0)))) := by
  refine zMet_of RX9 hX (by decide) rfl (Nat.le_of_ble_eq_true rfl) ?_
  intro p e s m args below meth c C hr hlk
  show Z p l e (zrm 1) s m args below meth c Γ 1 0 0 (MQ below (zQc Γ (zpv (fun G' => zsm [1007, 1008, 1009, 1010] G G' ∧ LJr G G' ∧ (G'.1 1010 w 0 = (sk (G.1 2057 (Γ.2.1 w 0)) (G.1 1006 w 0) (G.1 1007 w 0)) ∧ G'.1 1007 w 0 = tkN (G.1 2057 (Γ.2.1 w 0)) (G.1 1006 w 0) (sk (G.1 2057 (Γ.2.1 w 0)) (G.1 1006 w 0) (G.1 1007 w 0)) ∧ tkM (tkK (G.1 2057 (Γ.2.1 w 0)) (G.1 1006 w 0) (sk (G.1 2057 (Γ.2.1 w 0)) (G.1 1006 w 0) (G.1 1007 w 0))) (tkV (G.1 2057 (Γ.2.1 w 0)) (G.1 1006 w 0) (sk (G.1 2057 (Γ.2.1 w 0)) (G.1 1006 w 0) (G.1 1007 w 0))) (G'.1 1008 w 0) (G'.1 1009 w 0))))) args s 0 0 (zA Γ)) 0 [some (zr 10 w)] [] G
  have L0 : ∀ (nn : Nat) (G1 : zH), (zsm [1007] G G1) → (G1.1 1007 w 0 ≤ G1.1 1006 w 0 ∧ G.1 1007 w 0 ≤ G1.1 1007 w 0) → (sk (G.1 2057 (Γ.2.1 w 0)) (G.1 1006 w 0) (G1.1 1007 w 0) = (sk (G.1 2057 (Γ.2.1 w 0)) (G.1 1006 w 0) (G.1 1007 w 0))) → (LJr G G1) → (700 - G1.1 1007 w 0).toNat < nn → Z p l e (zrm 1) s m args below meth c Γ 1 0 0 (MQ below (zQc Γ (zpv (fun G' => zsm [1007, 1008, 1009, 1010] G G' ∧ LJr G G' ∧ (G'.1 1010 w 0 = (sk (G.1 2057 (Γ.2.1 w 0)) (G.1 1006 w 0) (G.1 1007 w 0)) ∧ G'.1 1007 w 0 = tkN (G.1 2057 (Γ.2.1 w 0)) (G.1 1006 w 0) (sk (G.1 2057 (Γ.2.1 w 0)) (G.1 1006 w 0) (G.1 1007 w 0)) ∧ tkM (tkK (G.1 2057 (Γ.2.1 w 0)) (G.1 1006 w 0) (sk (G.1 2057 (Γ.2.1 w 0)) (G.1 1006 w 0) (G.1 1007 w 0))) (tkV (G.1 2057 (Γ.2.1 w 0)) (G.1 1006 w 0) (sk (G.1 2057 (Γ.2.1 w 0)) (G.1 1006 w 0) (G.1 1007 w 0))) (G'.1 1008 w 0) (G'.1 1009 w 0))))) args s 0 0 (zA Γ)) 0 [some (zr 10 w)] [] G1 := by
    intro nn
    induction nn with
    | zero => intro G1 h0_0 h0_1 h0_2 h0_3 hm; exact absurd hm (Nat.not_lt_zero _)
    | succ nn ih0 =>
      intro G1 h0_0 h0_1 h0_2 h0_3 hm0
      refine zs_good (fun hGda => ?_)
      have hba := hGda.1 1006 w 0
      rw [r_1006] at hba
      have hSP1 := zsm_at h0_0 1006 w 0 (by decide)
      refine zs_aload_n (pc := 0) C dX9_token_0 rfl ?_
      have J52 : ∀ (G0 : zH), (G0 = G1) → ((sk (G.1 2057 (Γ.2.1 w 0)) (G.1 1006 w 0) (G.1 1007 w 0)) = G1.1 1007 w 0) → Z p l e (zrm 1) s m args below meth c Γ 1 0 0 (MQ below (zQc Γ (zpv (fun G' => zsm [1007, 1008, 1009, 1010] G G' ∧ LJr G G' ∧ (G'.1 1010 w 0 = (sk (G.1 2057 (Γ.2.1 w 0)) (G.1 1006 w 0) (G.1 1007 w 0)) ∧ G'.1 1007 w 0 = tkN (G.1 2057 (Γ.2.1 w 0)) (G.1 1006 w 0) (sk (G.1 2057 (Γ.2.1 w 0)) (G.1 1006 w 0) (G.1 1007 w 0)) ∧ tkM (tkK (G.1 2057 (Γ.2.1 w 0)) (G.1 1006 w 0) (sk (G.1 2057 (Γ.2.1 w 0)) (G.1 1006 w 0) (G.1 1007 w 0))) (tkV (G.1 2057 (Γ.2.1 w 0)) (G.1 1006 w 0) (sk (G.1 2057 (Γ.2.1 w 0)) (G.1 1006 w 0) (G.1 1007 w 0))) (G'.1 1008 w 0) (G'.1 1009 w 0))))) args s 0 0 (zA Γ)) 52 [some (zr 10 w)] [] G0 := by
        intro G0 h52_0 h52_1
        rw [h52_0]
        refine zs_aload_n (pc := 52) C dX9_token_52 rfl ?_
        refine zs_aload_n (pc := 53) C dX9_token_53 rfl ?_
        refine zs_geti (r := 1007) (pc := 54) C dX9_token_54 w_X9_193 f_10_7 rfl (r_1007 0) (fun v54 e54 l54 u54 => ?_)
        refine zs_puti (r := 1010) (pc := 57) C dX9_token_57 w_X9_187 f_10_10 rfl (r_1010 0) (by omega) ?_
        refine zs_heap (P := fun G2 => zsm [1007, 1010] G G2 ∧ LJr G G2 ∧ G2.1 1007 w 0 = (sk (G.1 2057 (Γ.2.1 w 0)) (G.1 1006 w 0) (G.1 1007 w 0)) ∧ G2.1 1010 w 0 = (sk (G.1 2057 (Γ.2.1 w 0)) (G.1 1006 w 0) (G.1 1007 w 0))) ⟨(by repeat (first | exact zsm_rf | assumption | refine zsm_C (by decide) ?_ | refine zsm_I (by decide) ?_ | refine zsm_J ?_ | refine zsm_c (by assumption) (by decide) ?_)), (by with_reducible repeat (first | exact LJr_rf | assumption | refine LJr_I (h := 0) (by decide) (Nat.zero_le _) ?_ | refine LJr_I (h := 3) (by decide) (by omega) ?_ | refine LJr_I (h := 4) (by decide) (by omega) ?_ | refine LJr_I (h := 5) (by decide) (by omega) ?_ | refine LJr_I (h := 7) (by decide) (by omega) ?_ | refine LJr_I (h := 20) (by decide) (by omega) ?_ | refine LJr_I (h := 64) (by decide) (by omega) ?_ | refine LJr_c (by assumption) ?_)), by simp only [zuI_1, zuI_2, zuJ_1, zuJ_2, zuJ_3, zuP_1, zuP_2, zuP_3, zuC_1, zuC_2, reduceIte, Nat.reduceEqDiff, false_and, and_false, true_and, and_true, and_self, or_true, true_or, or_false, false_or]; omega, by simp only [zuI_1, zuI_2, zuJ_1, zuJ_2, zuJ_3, zuP_1, zuP_2, zuP_3, zuC_1, zuC_2, reduceIte, Nat.reduceEqDiff, false_and, and_false, true_and, and_true, and_self, or_true, true_or, or_false, false_or]; omega⟩ (fun G2 hG2 => ?_)
        obtain ⟨hh1, lwG2, hh2, hh3⟩ := hG2
        have hSP := zsm_at hh1 1006 w 0 (by decide)
        have h57 := hh1.1 2057 (by decide)
        have h57v : ∀ i : Nat, G2.1 2057 (Γ.2.1 w 0) i = G.1 2057 (Γ.2.1 w 0) i := fun i => by rw [h57]
        have hsa := sp_le (f := fB) (b := (G.1 2057 (Γ.2.1 w 0))) hn
        have hsb := sp_ge (f := fB) (b := (G.1 2057 (Γ.2.1 w 0))) (n := (G.1 1006 w 0)) (p := (G.1 1007 w 0))
        rw [← sk] at hsa hsb
        refine zs_good (fun hGdt => ?_)
        have hbt := hGdt.1 1006 w 0
        rw [r_1006] at hbt
        refine zs_aload_n (pc := 60) C dX9_token_60 rfl ?_
        refine zs_geti (r := 1007) (pc := 61) C dX9_token_61 w_X9_193 f_10_7 rfl (r_1007 0) (fun v61 e61 l61 u61 => ?_)
        try simp only [zuI_1, zuI_2, zuJ_1, zuJ_2, zuJ_3, zuP_1, zuP_2, zuP_3, zuC_1, zuC_2, reduceIte, Nat.reduceEqDiff, false_and, and_false, true_and, and_true, and_self, or_true, true_or, or_false, false_or] at e61
        refine zs_aload_n (pc := 64) C dX9_token_64 rfl ?_
        refine zs_geti (r := 1006) (pc := 65) C dX9_token_65 w_X9_190 f_10_6 rfl (r_1006 0) (fun v65 e65 l65 u65 => ?_)
        try simp only [zuI_1, zuI_2, zuJ_1, zuJ_2, zuJ_3, zuP_1, zuP_2, zuP_3, zuC_1, zuC_2, reduceIte, Nat.reduceEqDiff, false_and, and_false, true_and, and_true, and_self, or_true, true_or, or_false, false_or] at e65
        refine zs_icmp_ne (tgt := 79) (pc := 68) C dX9_token_68 (by decide) (fun h68 => ?_) (fun h68 => ?_)
        · skip
          refine zs_aload_n (pc := 79) C dX9_token_79 rfl ?_
          refine zs_aload_n (pc := 80) C dX9_token_80 rfl ?_
          refine zs_geti (r := 1007) (pc := 81) C dX9_token_81 w_X9_193 f_10_7 rfl (r_1007 0) (fun v81 e81 l81 u81 => ?_)
          try simp only [zuI_1, zuI_2, zuJ_1, zuJ_2, zuJ_3, zuP_1, zuP_2, zuP_3, zuC_1, zuC_2, reduceIte, Nat.reduceEqDiff, false_and, and_false, true_and, and_true, and_self, or_true, true_or, or_false, false_or] at e81
          refine zVip1 (pc := 84) C dX9_token_84 v_X9_199 (c_X9_isSmall hX (by first | omega | (simp only [zuI_1, zuI_2, zuJ_1, zuJ_2, zuJ_3, zuP_1, zuP_2, zuP_3, zuC_1, zuC_2, reduceIte, Nat.reduceEqDiff, false_and, and_false, true_and, and_true, and_self, or_true, true_or, or_false, false_or]; omega))) (by decide) (by decide) ⟨Nat.zero_le _, Nat.zero_le _⟩ (Nat.le_of_ble_eq_true rfl) (fun x84 l84 u84 hp84 => ?_)
          have hq84 := hp84
          try simp only [zuI_1, zuI_2, zuJ_1, zuJ_2, zuJ_3, zuP_1, zuP_2, zuP_3, zuC_1, zuC_2, reduceIte, Nat.reduceEqDiff, false_and, and_false, true_and, and_true, and_self, or_true, true_or, or_false, false_or] at hq84
          refine zs_if_eq (tgt := 192) (pc := 87) C dX9_token_87 (by decide) (fun h87 => ?_) (fun h87 => ?_)
          · skip
            have hlt : (sk (G.1 2057 (Γ.2.1 w 0)) (G.1 1006 w 0) (G.1 1007 w 0)) < (G.1 1006 w 0) := by omega
            have hl : ¬ fL ((G.1 2057 (Γ.2.1 w 0)) ((sk (G.1 2057 (Γ.2.1 w 0)) (G.1 1006 w 0) (G.1 1007 w 0))).toNat) = true := by rw [fL_i, ← h57v]; intro q; have q2 := hq84.2.mpr (by rw [e81, hh2]; omega); omega
            refine zs_aload_n (pc := 192) C dX9_token_192 rfl ?_
            refine zs_aload_n (pc := 193) C dX9_token_193 rfl ?_
            refine zs_geti (r := 1007) (pc := 194) C dX9_token_194 w_X9_193 f_10_7 rfl (r_1007 0) (fun v194 e194 l194 u194 => ?_)
            try simp only [zuI_1, zuI_2, zuJ_1, zuJ_2, zuJ_3, zuP_1, zuP_2, zuP_3, zuC_1, zuC_2, reduceIte, Nat.reduceEqDiff, false_and, and_false, true_and, and_true, and_self, or_true, true_or, or_false, false_or] at e194
            refine zVip1 (pc := 197) C dX9_token_197 v_X9_213 (c_X9_isDigit hX (by first | omega | (simp only [zuI_1, zuI_2, zuJ_1, zuJ_2, zuJ_3, zuP_1, zuP_2, zuP_3, zuC_1, zuC_2, reduceIte, Nat.reduceEqDiff, false_and, and_false, true_and, and_true, and_self, or_true, true_or, or_false, false_or]; omega))) (by decide) (by decide) ⟨Nat.zero_le _, Nat.zero_le _⟩ (Nat.le_of_ble_eq_true rfl) (fun x197 l197 u197 hp197 => ?_)
            have hq197 := hp197
            try simp only [zuI_1, zuI_2, zuJ_1, zuJ_2, zuJ_3, zuP_1, zuP_2, zuP_3, zuC_1, zuC_2, reduceIte, Nat.reduceEqDiff, false_and, and_false, true_and, and_true, and_self, or_true, true_or, or_false, false_or] at hq197
            refine zs_if_eq (tgt := 277) (pc := 200) C dX9_token_200 (by decide) (fun h200 => ?_) (fun h200 => ?_)
            · skip
              have hd : ¬ fD ((G.1 2057 (Γ.2.1 w 0)) ((sk (G.1 2057 (Γ.2.1 w 0)) (G.1 1006 w 0) (G.1 1007 w 0))).toNat) = true := by rw [fD_i, ← h57v]; intro q; have q2 := hq197.2.mpr (by rw [e194, hh2]; omega); omega
              refine zs_aload_n (pc := 277) C dX9_token_277 rfl ?_
              refine zVv0 (pc := 278) C dX9_token_278 v_X9_217 (c_X9_signTokenY hX (by first | omega | (simp only [zuI_1, zuI_2, zuJ_1, zuJ_2, zuJ_3, zuP_1, zuP_2, zuP_3, zuC_1, zuC_2, reduceIte, Nat.reduceEqDiff, false_and, and_false, true_and, and_true, and_self, or_true, true_or, or_false, false_or]; omega)) (by first | omega | (simp only [zuI_1, zuI_2, zuJ_1, zuJ_2, zuJ_3, zuP_1, zuP_2, zuP_3, zuC_1, zuC_2, reduceIte, Nat.reduceEqDiff, false_and, and_false, true_and, and_true, and_self, or_true, true_or, or_false, false_or]; omega))) (by decide) (by decide) ⟨Nat.zero_le _, Nat.zero_le _⟩ (Nat.le_of_ble_eq_true rfl) (fun G278 hp278 => ?_)
              obtain ⟨hz278, lo278, hq278⟩ := hp278
              try simp only [zuI_1, zuI_2, zuJ_1, zuJ_2, zuJ_3, zuP_1, zuP_2, zuP_3, zuC_1, zuC_2, reduceIte, Nat.reduceEqDiff, false_and, and_false, true_and, and_true, and_self, or_true, true_or, or_false, false_or] at hq278
              have hts := tk_s hlt hl hd
              rw [h57, hSP, hh2] at hq278
              have hAT5 := zsm_at hz278 1010 w 0 (by decide)
              have hN : tkN (G.1 2057 (Γ.2.1 w 0)) (G.1 1006 w 0) (sk (G.1 2057 (Γ.2.1 w 0)) (G.1 1006 w 0) (G.1 1007 w 0)) = G278.1 1007 w 0 := by rw [hts.2.2]; exact hq278.1.symm
              have hM : tkM (tkK (G.1 2057 (Γ.2.1 w 0)) (G.1 1006 w 0) (sk (G.1 2057 (Γ.2.1 w 0)) (G.1 1006 w 0) (G.1 1007 w 0))) (tkV (G.1 2057 (Γ.2.1 w 0)) (G.1 1006 w 0) (sk (G.1 2057 (Γ.2.1 w 0)) (G.1 1006 w 0) (G.1 1007 w 0))) (G278.1 1008 w 0) (G278.1 1009 w 0) := by
                rw [hts.1, hts.2.1]
                by_cases q : sgV ((G.1 2057 (Γ.2.1 w 0)) ((sk (G.1 2057 (Γ.2.1 w 0)) (G.1 1006 w 0) (G.1 1007 w 0))).toNat) (bh (G.1 2057 (Γ.2.1 w 0)) (G.1 1006 w 0) (sk (G.1 2057 (Γ.2.1 w 0)) (G.1 1006 w 0) (G.1 1007 w 0))) = 0
                · rw [if_pos q]
                  exact Or.inr (Or.inr (Or.inr (Or.inr (Or.inr ⟨rfl, hq278.2.1 q⟩))))
                · rw [if_neg q]
                  exact Or.inr (Or.inr (Or.inr (Or.inr (Or.inl ⟨rfl, hq278.2.2 q⟩))))
              exact zs_vret (pc := 281) C hr hlk dX9_token_281 ⟨by repeat (first | exact zsm_rf | assumption | refine zsm_C (by decide) ?_ | refine zsm_I (by decide) ?_ | refine zsm_J ?_ | refine zsm_c (by assumption) (by decide) ?_), (by with_reducible repeat (first | exact LJr_rf | assumption | refine LJr_I (h := 0) (by decide) (Nat.zero_le _) ?_ | refine LJr_I (h := 3) (by decide) (by omega) ?_ | refine LJr_I (h := 4) (by decide) (by omega) ?_ | refine LJr_I (h := 5) (by decide) (by omega) ?_ | refine LJr_I (h := 7) (by decide) (by omega) ?_ | refine LJr_I (h := 20) (by decide) (by omega) ?_ | refine LJr_I (h := 64) (by decide) (by omega) ?_ | refine LJr_c (by assumption) ?_)), (by refine ⟨?_, ?_, ?_⟩ <;> first | assumption | (first | omega | (simp only [zuI_1, zuI_2, zuJ_1, zuJ_2, zuJ_3, zuP_1, zuP_2, zuP_3, zuC_1, zuC_2, reduceIte, Nat.reduceEqDiff, false_and, and_false, true_and, and_true, and_self, or_true, true_or, or_false, false_or]; first | assumption | omega)))⟩
            · skip
              have hd : fD ((G.1 2057 (Γ.2.1 w 0)) ((sk (G.1 2057 (Γ.2.1 w 0)) (G.1 1006 w 0) (G.1 1007 w 0))).toNat) = true := by rw [fD_i, ← h57v]; have q := hq197.2.mp (by omega); rw [e194, hh2] at q; omega
              refine zs_aload_n (pc := 203) C dX9_token_203 rfl ?_
              refine zs_iconst (pc := 204) C dX9_token_204 (by decide) ?_
              refine zs_puti (r := 1008) (pc := 205) C dX9_token_205 w_X9_196 f_10_8 rfl (r_1008 0) (by omega) ?_
              refine zs_aload_n (pc := 208) C dX9_token_208 rfl ?_
              refine zs_iconst (pc := 209) C dX9_token_209 (by decide) ?_
              refine zs_puti (r := 1009) (pc := 210) C dX9_token_210 w_X9_207 f_10_9 rfl (r_1009 0) (by omega) ?_
              have L213 : ∀ (nn : Nat) (G4 : zH), (zsm [1007, 1008, 1009] G2 G4) → (G4.1 1007 w 0 ≤ G4.1 1006 w 0 ∧ (sk (G.1 2057 (Γ.2.1 w 0)) (G.1 1006 w 0) (G.1 1007 w 0)) ≤ G4.1 1007 w 0 ∧ G4.1 1008 w 0 = 3 ∧ 0 ≤ G4.1 1009 w 0) → (sp fD (G.1 2057 (Γ.2.1 w 0)) (G.1 1006 w 0) (G4.1 1007 w 0) = sp fD (G.1 2057 (Γ.2.1 w 0)) (G.1 1006 w 0) (sk (G.1 2057 (Γ.2.1 w 0)) (G.1 1006 w 0) (G.1 1007 w 0))) → (dg (G.1 2057 (Γ.2.1 w 0)) (G.1 1006 w 0) (G4.1 1007 w 0) (min (G4.1 1009 w 0) 100000) = dg (G.1 2057 (Γ.2.1 w 0)) (G.1 1006 w 0) (sk (G.1 2057 (Γ.2.1 w 0)) (G.1 1006 w 0) (G.1 1007 w 0)) 0) → (LJr G2 G4) → (700 - G4.1 1007 w 0).toNat < nn → Z p l e (zrm 1) s m args below meth c Γ 1 0 0 (MQ below (zQc Γ (zpv (fun G' => zsm [1007, 1008, 1009, 1010] G G' ∧ LJr G G' ∧ (G'.1 1010 w 0 = (sk (G.1 2057 (Γ.2.1 w 0)) (G.1 1006 w 0) (G.1 1007 w 0)) ∧ G'.1 1007 w 0 = tkN (G.1 2057 (Γ.2.1 w 0)) (G.1 1006 w 0) (sk (G.1 2057 (Γ.2.1 w 0)) (G.1 1006 w 0) (G.1 1007 w 0)) ∧ tkM (tkK (G.1 2057 (Γ.2.1 w 0)) (G.1 1006 w 0) (sk (G.1 2057 (Γ.2.1 w 0)) (G.1 1006 w 0) (G.1 1007 w 0))) (tkV (G.1 2057 (Γ.2.1 w 0)) (G.1 1006 w 0) (sk (G.1 2057 (Γ.2.1 w 0)) (G.1 1006 w 0) (G.1 1007 w 0))) (G'.1 1008 w 0) (G'.1 1009 w 0))))) args s 0 0 (zA Γ)) 213 [some (zr 10 w)] [] G4 := by
                intro nn
                induction nn with
                | zero => intro G4 h213_0 h213_1 h213_2 h213_3 h213_4 hm; exact absurd hm (Nat.not_lt_zero _)
                | succ nn ih213 =>
                  intro G4 h213_0 h213_1 h213_2 h213_3 h213_4 hm213
                  refine zs_good (fun hGdc => ?_)
                  have hbc := hGdc.1 1006 w 0
                  rw [r_1006] at hbc
                  refine zs_aload_n (pc := 213) C dX9_token_213 rfl ?_
                  refine zs_aload_n (pc := 214) C dX9_token_214 rfl ?_
                  refine zs_geti (r := 1007) (pc := 215) C dX9_token_215 w_X9_193 f_10_7 rfl (r_1007 0) (fun v215 e215 l215 u215 => ?_)
                  refine zVip1 (pc := 218) C dX9_token_218 v_X9_213 (c_X9_isDigit hX (by omega)) (by decide) (by decide) ⟨Nat.zero_le _, Nat.zero_le _⟩ (Nat.le_of_ble_eq_true rfl) (fun x218 l218 u218 hp218 => ?_)
                  have hq218 := hp218
                  refine zs_if_eq (tgt := 281) (pc := 221) C dX9_token_221 (by decide) (fun h221 => ?_) (fun h221 => ?_)
                  · skip
                    have hAT4 := zsm_at h213_0 1010 w 0 (by decide)
                    have hSP4 := zsm_at h213_0 1006 w 0 (by decide)
                    have hne : ¬ (G4.1 1007 w 0 < (G.1 1006 w 0) ∧ fD ((G.1 2057 (Γ.2.1 w 0)) (G4.1 1007 w 0).toNat) = true) := by
                      intro q
                      have q2 := fD_i.mp q.2
                      rw [← h57, ← h213_0.1 2057 (by decide)] at q2
                      have q3 := hq218.2.mpr (by rw [e215]; omega)
                      omega
                    have hN : tkN (G.1 2057 (Γ.2.1 w 0)) (G.1 1006 w 0) (sk (G.1 2057 (Γ.2.1 w 0)) (G.1 1006 w 0) (G.1 1007 w 0)) = G4.1 1007 w 0 := by rw [(tk_d hlt hl hd).2.2, ← h213_2, sp_e hne]
                    have hM : tkM (tkK (G.1 2057 (Γ.2.1 w 0)) (G.1 1006 w 0) (sk (G.1 2057 (Γ.2.1 w 0)) (G.1 1006 w 0) (G.1 1007 w 0))) (tkV (G.1 2057 (Γ.2.1 w 0)) (G.1 1006 w 0) (sk (G.1 2057 (Γ.2.1 w 0)) (G.1 1006 w 0) (G.1 1007 w 0))) (G4.1 1008 w 0) (G4.1 1009 w 0) := by
                      have hK := tk_d hlt hl hd
                      rw [hK.1, hK.2.1, ← h213_3, dg_e hne]
                      exact Or.inr (Or.inr (Or.inr (Or.inl ⟨rfl, by omega, by omega, rfl⟩)))
                    exact zs_vret (pc := 281) C hr hlk dX9_token_281 ⟨by repeat (first | exact zsm_rf | assumption | refine zsm_C (by decide) ?_ | refine zsm_I (by decide) ?_ | refine zsm_J ?_ | refine zsm_c (by assumption) (by decide) ?_), (by with_reducible repeat (first | exact LJr_rf | assumption | refine LJr_I (h := 0) (by decide) (Nat.zero_le _) ?_ | refine LJr_I (h := 3) (by decide) (by omega) ?_ | refine LJr_I (h := 4) (by decide) (by omega) ?_ | refine LJr_I (h := 5) (by decide) (by omega) ?_ | refine LJr_I (h := 7) (by decide) (by omega) ?_ | refine LJr_I (h := 20) (by decide) (by omega) ?_ | refine LJr_I (h := 64) (by decide) (by omega) ?_ | refine LJr_c (by assumption) ?_)), (by refine ⟨?_, ?_, ?_⟩ <;> first | assumption | (first | omega | (simp only [zuI_1, zuI_2, zuJ_1, zuJ_2, zuJ_3, zuP_1, zuP_2, zuP_3, zuC_1, zuC_2, reduceIte, Nat.reduceEqDiff, false_and, and_false, true_and, and_true, and_self, or_true, true_or, or_false, false_or]; first | assumption | omega)))⟩
                  · skip
                    have hL9 := hq218.2.mp (by omega)
                    rw [e215] at hL9
                    have hLb : fD ((G.1 2057 (Γ.2.1 w 0)) (G4.1 1007 w 0).toNat) = true := by rw [fD_i, ← h57, ← h213_0.1 2057 (by decide)]; omega
                    have hSP4 := zsm_at h213_0 1006 w 0 (by decide)
                    refine zs_aload_n (pc := 224) C dX9_token_224 rfl ?_
                    refine zs_aload_n (pc := 225) C dX9_token_225 rfl ?_
                    refine zs_geti (r := 1009) (pc := 226) C dX9_token_226 w_X9_207 f_10_9 rfl (r_1009 0) (fun v226 e226 l226 u226 => ?_)
                    refine zs_ldc (n := 99999) (pc := 229) C dX9_token_229 q_X9_216 (by decide) (by decide) ?_
                    refine zs_icmp_le (tgt := 241) (pc := 231) C dX9_token_231 (by decide) (fun h231 => ?_) (fun h231 => ?_)
                    · skip
                      refine zs_bipush (pc := 241) C dX9_token_241 (by decide) (by decide) ?_
                      refine zs_aload_n (pc := 243) C dX9_token_243 rfl ?_
                      refine zs_geti (r := 1009) (pc := 244) C dX9_token_244 w_X9_207 f_10_9 rfl (r_1009 0) (fun v244 e244 l244 u244 => ?_)
                      first | refine zs_imul (pc := 247) C dX9_token_247 (by omega) ?_ | refine zs_imulF (pc := 247) C dX9_token_247 (fun z247 hz2471 hz2472 => ?_)
                      refine zs_aload_n (pc := 248) C dX9_token_248 rfl ?_
                      refine zs_getf (pc := 249) C dX9_token_249 w_X9_7 f_10_0 (by decide) ?_
                      refine zs_aload_n (pc := 252) C dX9_token_252 rfl ?_
                      refine zs_geti (r := 1007) (pc := 253) C dX9_token_253 w_X9_193 f_10_7 rfl (r_1007 0) (fun v253 e253 l253 u253 => ?_)
                      refine zs_iald (r := 2057) (pc := 256) C dX9_token_256 a_57 (by decide) (by omega) rfl (r_2057 _) (fun v256 e256 l256 u256 => ?_)
                      rw [e253] at e256
                      first | refine zs_iadd (pc := 257) C dX9_token_257 (by omega) ?_ | refine zs_iaddF (pc := 257) C dX9_token_257 (fun z257 hz2571 hz2572 => ?_)
                      refine zs_bipush (pc := 258) C dX9_token_258 (by decide) (by decide) ?_
                      first | refine zs_isub (pc := 260) C dX9_token_260 (by omega) ?_ | refine zs_isubF (pc := 260) C dX9_token_260 (fun z260 hz2601 hz2602 => ?_)
                      refine zs_puti (r := 1009) (pc := 261) C dX9_token_261 w_X9_207 f_10_9 rfl (r_1009 0) (by omega) ?_
                      refine zs_aload_n (pc := 264) C dX9_token_264 rfl ?_
                      refine zs_dupa (pc := 265) C dX9_token_265 ?_
                      refine zs_geti (r := 1007) (pc := 266) C dX9_token_266 w_X9_193 f_10_7 rfl (r_1007 0) (fun v266 e266 l266 u266 => ?_)
                      try simp only [zuI_1, zuI_2, zuJ_1, zuJ_2, zuJ_3, zuP_1, zuP_2, zuP_3, zuC_1, zuC_2, reduceIte, Nat.reduceEqDiff, false_and, and_false, true_and, and_true, and_self, or_true, true_or, or_false, false_or] at e266
                      refine zs_iconst (pc := 269) C dX9_token_269 (by decide) ?_
                      first | refine zs_iadd (pc := 270) C dX9_token_270 (by omega) ?_ | refine zs_iaddF (pc := 270) C dX9_token_270 (fun z270 hz2701 hz2702 => ?_)
                      refine zs_puti (r := 1007) (pc := 271) C dX9_token_271 w_X9_193 f_10_7 rfl (r_1007 0) (by omega) ?_
                      refine zs_goto (tgt := 213) (pc := 274) C dX9_token_274 (by decide) ?_
                      exact zs_wk (ih213 _ (by repeat (first | exact zsm_rf | assumption | refine zsm_C (by decide) ?_ | refine zsm_I (by decide) ?_ | refine zsm_J ?_ | refine zsm_c (by assumption) (by decide) ?_)) (by first | omega | (simp only [zuI_1, zuI_2, zuJ_1, zuJ_2, zuJ_3, zuP_1, zuP_2, zuP_3, zuC_1, zuC_2, reduceIte, Nat.reduceEqDiff, false_and, and_false, true_and, and_true, and_self, or_true, true_or, or_false, false_or]; omega)) (by simp only [zuI_1, zuI_2, zuJ_1, zuJ_2, zuJ_3, zuP_1, zuP_2, zuP_3, zuC_1, zuC_2, reduceIte, Nat.reduceEqDiff, false_and, and_false, true_and, and_true, and_self, or_true, true_or, or_false, false_or]; rw [← h213_2, show v266 + 1 = G4.1 1007 w 0 + 1 by omega]; exact (sp_s (by omega) hLb).symm) (by simp only [zuI_1, zuI_2, zuJ_1, zuJ_2, zuJ_3, zuP_1, zuP_2, zuP_3, zuC_1, zuC_2, reduceIte, Nat.reduceEqDiff, false_and, and_false, true_and, and_true, and_self, or_true, true_or, or_false, false_or]; rw [← h213_3, dg_s (p := G4.1 1007 w 0) (by omega) hLb, show v266 + 1 = G4.1 1007 w 0 + 1 by omega]; congr 1; have h37 : (G.1 2057 (Γ.2.1 w 0)) (G4.1 1007 w 0).toNat = G4.1 2057 (Γ.2.1 w 0) (G4.1 1007 w 0).toNat := (by rw [← h57, ← h213_0.1 2057 (by decide)]); rw [h37]; first | omega | (rw [e253] at e256; omega)) (by with_reducible repeat (first | exact LJr_rf | assumption | refine LJr_I (h := 0) (by decide) (Nat.zero_le _) ?_ | refine LJr_I (h := 3) (by decide) (by omega) ?_ | refine LJr_I (h := 4) (by decide) (by omega) ?_ | refine LJr_I (h := 5) (by decide) (by omega) ?_ | refine LJr_I (h := 7) (by decide) (by omega) ?_ | refine LJr_I (h := 20) (by decide) (by omega) ?_ | refine LJr_I (h := 64) (by decide) (by omega) ?_ | refine LJr_c (by assumption) ?_)) (by first | omega | (simp only [zuI_1, zuI_2, zuJ_1, zuJ_2, zuJ_3, zuP_1, zuP_2, zuP_3, zuC_1, zuC_2, reduceIte, Nat.reduceEqDiff, false_and, and_false, true_and, and_true, and_self, or_true, true_or, or_false, false_or]; omega))) (zwk_s rfl zwk_0)
                    · skip
                      refine zs_aload_n (pc := 234) C dX9_token_234 rfl ?_
                      refine zs_geti (r := 1009) (pc := 235) C dX9_token_235 w_X9_207 f_10_9 rfl (r_1009 0) (fun v235 e235 l235 u235 => ?_)
                      refine zs_goto (tgt := 261) (pc := 238) C dX9_token_238 (by decide) ?_
                      refine zs_puti (r := 1009) (pc := 261) C dX9_token_261 w_X9_207 f_10_9 rfl (r_1009 0) (by omega) ?_
                      refine zs_aload_n (pc := 264) C dX9_token_264 rfl ?_
                      refine zs_dupa (pc := 265) C dX9_token_265 ?_
                      refine zs_geti (r := 1007) (pc := 266) C dX9_token_266 w_X9_193 f_10_7 rfl (r_1007 0) (fun v266 e266 l266 u266 => ?_)
                      try simp only [zuI_1, zuI_2, zuJ_1, zuJ_2, zuJ_3, zuP_1, zuP_2, zuP_3, zuC_1, zuC_2, reduceIte, Nat.reduceEqDiff, false_and, and_false, true_and, and_true, and_self, or_true, true_or, or_false, false_or] at e266
                      refine zs_iconst (pc := 269) C dX9_token_269 (by decide) ?_
                      first | refine zs_iadd (pc := 270) C dX9_token_270 (by omega) ?_ | refine zs_iaddF (pc := 270) C dX9_token_270 (fun z270 hz2701 hz2702 => ?_)
                      refine zs_puti (r := 1007) (pc := 271) C dX9_token_271 w_X9_193 f_10_7 rfl (r_1007 0) (by omega) ?_
                      refine zs_goto (tgt := 213) (pc := 274) C dX9_token_274 (by decide) ?_
                      exact zs_wk (ih213 _ (by repeat (first | exact zsm_rf | assumption | refine zsm_C (by decide) ?_ | refine zsm_I (by decide) ?_ | refine zsm_J ?_ | refine zsm_c (by assumption) (by decide) ?_)) (by first | omega | (simp only [zuI_1, zuI_2, zuJ_1, zuJ_2, zuJ_3, zuP_1, zuP_2, zuP_3, zuC_1, zuC_2, reduceIte, Nat.reduceEqDiff, false_and, and_false, true_and, and_true, and_self, or_true, true_or, or_false, false_or]; omega)) (by simp only [zuI_1, zuI_2, zuJ_1, zuJ_2, zuJ_3, zuP_1, zuP_2, zuP_3, zuC_1, zuC_2, reduceIte, Nat.reduceEqDiff, false_and, and_false, true_and, and_true, and_self, or_true, true_or, or_false, false_or]; rw [← h213_2, show v266 + 1 = G4.1 1007 w 0 + 1 by omega]; exact (sp_s (by omega) hLb).symm) (by simp only [zuI_1, zuI_2, zuJ_1, zuJ_2, zuJ_3, zuP_1, zuP_2, zuP_3, zuC_1, zuC_2, reduceIte, Nat.reduceEqDiff, false_and, and_false, true_and, and_true, and_self, or_true, true_or, or_false, false_or]; rw [← h213_3, dg_s (p := G4.1 1007 w 0) (by omega) hLb, show v266 + 1 = G4.1 1007 w 0 + 1 by omega]; congr 1; have h37 : (G.1 2057 (Γ.2.1 w 0)) (G4.1 1007 w 0).toNat = G4.1 2057 (Γ.2.1 w 0) (G4.1 1007 w 0).toNat := (by rw [← h57, ← h213_0.1 2057 (by decide)]); rw [h37]; first | omega | (rw [e253] at e256; omega)) (by with_reducible repeat (first | exact LJr_rf | assumption | refine LJr_I (h := 0) (by decide) (Nat.zero_le _) ?_ | refine LJr_I (h := 3) (by decide) (by omega) ?_ | refine LJr_I (h := 4) (by decide) (by omega) ?_ | refine LJr_I (h := 5) (by decide) (by omega) ?_ | refine LJr_I (h := 7) (by decide) (by omega) ?_ | refine LJr_I (h := 20) (by decide) (by omega) ?_ | refine LJr_I (h := 64) (by decide) (by omega) ?_ | refine LJr_c (by assumption) ?_)) (by first | omega | (simp only [zuI_1, zuI_2, zuJ_1, zuJ_2, zuJ_3, zuP_1, zuP_2, zuP_3, zuC_1, zuC_2, reduceIte, Nat.reduceEqDiff, false_and, and_false, true_and, and_true, and_self, or_true, true_or, or_false, false_or]; omega))) (zwk_s rfl zwk_0)
              exact zs_wk (L213 _ _ (by repeat (first | exact zsm_rf | assumption | refine zsm_C (by decide) ?_ | refine zsm_I (by decide) ?_ | refine zsm_J ?_ | refine zsm_c (by assumption) (by decide) ?_)) (by first | omega | (simp only [zuI_1, zuI_2, zuJ_1, zuJ_2, zuJ_3, zuP_1, zuP_2, zuP_3, zuC_1, zuC_2, reduceIte, Nat.reduceEqDiff, false_and, and_false, true_and, and_true, and_self, or_true, true_or, or_false, false_or]; omega)) (by simp only [zuI_1, zuI_2, zuJ_1, zuJ_2, zuJ_3, zuP_1, zuP_2, zuP_3, zuC_1, zuC_2, reduceIte, Nat.reduceEqDiff, false_and, and_false, true_and, and_true, and_self, or_true, true_or, or_false, false_or]; rw [hh2]) (by simp only [zuI_1, zuI_2, zuJ_1, zuJ_2, zuJ_3, zuP_1, zuP_2, zuP_3, zuC_1, zuC_2, reduceIte, Nat.reduceEqDiff, false_and, and_false, true_and, and_true, and_self, or_true, true_or, or_false, false_or]; rw [hh2]; rfl) (by with_reducible repeat (first | exact LJr_rf | assumption | refine LJr_I (h := 0) (by decide) (Nat.zero_le _) ?_ | refine LJr_I (h := 3) (by decide) (by omega) ?_ | refine LJr_I (h := 4) (by decide) (by omega) ?_ | refine LJr_I (h := 5) (by decide) (by omega) ?_ | refine LJr_I (h := 7) (by decide) (by omega) ?_ | refine LJr_I (h := 20) (by decide) (by omega) ?_ | refine LJr_I (h := 64) (by decide) (by omega) ?_ | refine LJr_c (by assumption) ?_)) (Nat.lt_succ_self _)) (zwk_s rfl zwk_0)
          · skip
            have hlt : (sk (G.1 2057 (Γ.2.1 w 0)) (G.1 1006 w 0) (G.1 1007 w 0)) < (G.1 1006 w 0) := by omega
            have hl : fL ((G.1 2057 (Γ.2.1 w 0)) ((sk (G.1 2057 (Γ.2.1 w 0)) (G.1 1006 w 0) (G.1 1007 w 0))).toNat) = true := by rw [fL_i, ← h57v]; have q := hq84.2.mp (by omega); rw [e81, hh2] at q; omega
            have L90 : ∀ (nn : Nat) (G3 : zH), (zsm [1007] G2 G3) → (G3.1 1007 w 0 ≤ G3.1 1006 w 0 ∧ (sk (G.1 2057 (Γ.2.1 w 0)) (G.1 1006 w 0) (G.1 1007 w 0)) ≤ G3.1 1007 w 0) → (sp fL (G.1 2057 (Γ.2.1 w 0)) (G.1 1006 w 0) (G3.1 1007 w 0) = sp fL (G.1 2057 (Γ.2.1 w 0)) (G.1 1006 w 0) (sk (G.1 2057 (Γ.2.1 w 0)) (G.1 1006 w 0) (G.1 1007 w 0))) → (LJr G2 G3) → (700 - G3.1 1007 w 0).toNat < nn → Z p l e (zrm 1) s m args below meth c Γ 1 0 0 (MQ below (zQc Γ (zpv (fun G' => zsm [1007, 1008, 1009, 1010] G G' ∧ LJr G G' ∧ (G'.1 1010 w 0 = (sk (G.1 2057 (Γ.2.1 w 0)) (G.1 1006 w 0) (G.1 1007 w 0)) ∧ G'.1 1007 w 0 = tkN (G.1 2057 (Γ.2.1 w 0)) (G.1 1006 w 0) (sk (G.1 2057 (Γ.2.1 w 0)) (G.1 1006 w 0) (G.1 1007 w 0)) ∧ tkM (tkK (G.1 2057 (Γ.2.1 w 0)) (G.1 1006 w 0) (sk (G.1 2057 (Γ.2.1 w 0)) (G.1 1006 w 0) (G.1 1007 w 0))) (tkV (G.1 2057 (Γ.2.1 w 0)) (G.1 1006 w 0) (sk (G.1 2057 (Γ.2.1 w 0)) (G.1 1006 w 0) (G.1 1007 w 0))) (G'.1 1008 w 0) (G'.1 1009 w 0))))) args s 0 0 (zA Γ)) 90 [some (zr 10 w)] [] G3 := by
              intro nn
              induction nn with
              | zero => intro G3 h90_0 h90_1 h90_2 h90_3 hm; exact absurd hm (Nat.not_lt_zero _)
              | succ nn ih90 =>
                intro G3 h90_0 h90_1 h90_2 h90_3 hm90
                refine zs_good (fun hGdb => ?_)
                have hbb := hGdb.1 1006 w 0
                rw [r_1006] at hbb
                refine zs_aload_n (pc := 90) C dX9_token_90 rfl ?_
                refine zs_aload_n (pc := 91) C dX9_token_91 rfl ?_
                refine zs_geti (r := 1007) (pc := 92) C dX9_token_92 w_X9_193 f_10_7 rfl (r_1007 0) (fun v92 e92 l92 u92 => ?_)
                refine zVip1 (pc := 95) C dX9_token_95 v_X9_199 (c_X9_isSmall hX (by omega)) (by decide) (by decide) ⟨Nat.zero_le _, Nat.zero_le _⟩ (Nat.le_of_ble_eq_true rfl) (fun x95 l95 u95 hp95 => ?_)
                have hq95 := hp95
                refine zs_if_eq (tgt := 114) (pc := 98) C dX9_token_98 (by decide) (fun h98 => ?_) (fun h98 => ?_)
                · skip
                  have hAT3 := zsm_at h90_0 1010 w 0 (by decide)
                  have hSP3 := zsm_at h90_0 1006 w 0 (by decide)
                  have hq3 : G3.1 1007 w 0 = sp fL (G.1 2057 (Γ.2.1 w 0)) (G.1 1006 w 0) (sk (G.1 2057 (Γ.2.1 w 0)) (G.1 1006 w 0) (G.1 1007 w 0)) := by
                    rw [← h90_2, sp_e]
                    intro q
                    have q2 := fL_i.mp q.2
                    rw [← h57, ← h90_0.1 2057 (by decide)] at q2
                    have q3 := hq95.2.mpr (by rw [e92]; omega)
                    omega
                  have hgt : (sk (G.1 2057 (Γ.2.1 w 0)) (G.1 1006 w 0) (G.1 1007 w 0)) < sp fL (G.1 2057 (Γ.2.1 w 0)) (G.1 1006 w 0) (sk (G.1 2057 (Γ.2.1 w 0)) (G.1 1006 w 0) (G.1 1007 w 0)) := by rw [sp_s hlt hl]; have := sp_ge (f := fL) (b := (G.1 2057 (Γ.2.1 w 0))) (n := (G.1 1006 w 0)) (p := (sk (G.1 2057 (Γ.2.1 w 0)) (G.1 1006 w 0) (G.1 1007 w 0)) + 1); omega
                  have hall : ∀ i : Int, (sk (G.1 2057 (Γ.2.1 w 0)) (G.1 1006 w 0) (G.1 1007 w 0)) ≤ i → i < sp fL (G.1 2057 (Γ.2.1 w 0)) (G.1 1006 w 0) (sk (G.1 2057 (Γ.2.1 w 0)) (G.1 1006 w 0) (G.1 1007 w 0)) → fL ((G.1 2057 (Γ.2.1 w 0)) i.toNat) = true := fun i i1 i2 => sp_all i1 i2
                  have hqle := sp_le (f := fL) (b := (G.1 2057 (Γ.2.1 w 0))) (n := (G.1 1006 w 0)) (p := (sk (G.1 2057 (Γ.2.1 w 0)) (G.1 1006 w 0) (G.1 1007 w 0))) (by omega)
                  refine zs_aload_n (pc := 114) C dX9_token_114 rfl ?_
                  refine zs_aload_n (pc := 115) C dX9_token_115 rfl ?_
                  refine zs_aload_n (pc := 116) C dX9_token_116 rfl ?_
                  refine zs_geti (r := 1010) (pc := 117) C dX9_token_117 w_X9_187 f_10_10 rfl (r_1010 0) (fun v117 e117 l117 u117 => ?_)
                  refine zs_aload_n (pc := 120) C dX9_token_120 rfl ?_
                  refine zs_geti (r := 1007) (pc := 121) C dX9_token_121 w_X9_193 f_10_7 rfl (r_1007 0) (fun v121 e121 l121 u121 => ?_)
                  refine zVip2 (pc := 124) C dX9_token_124 v_X9_203 (c_X9_wordAtF hX (by rw [e117, e121, hq3]; omega) (by rw [e117, e121, hq3, h90_0.1 2057 (by decide), h57, show G3.1 1010 w 0 = (sk (G.1 2057 (Γ.2.1 w 0)) (G.1 1006 w 0) (G.1 1007 w 0)) by omega]; exact hall)) (by decide) (by decide) ⟨Nat.zero_le _, Nat.zero_le _⟩ (Nat.le_of_ble_eq_true rfl) (fun x124 l124 u124 hp124 => ?_)
                  have hq124 := hp124
                  rw [e117, e121, hq3, show G3.1 1010 w 0 = (sk (G.1 2057 (Γ.2.1 w 0)) (G.1 1006 w 0) (G.1 1007 w 0)) by omega, h90_0.1 2057 (by decide), h57] at hq124
                  have hlr := lw_rp (cd (G.1 2057 (Γ.2.1 w 0)) (sk (G.1 2057 (Γ.2.1 w 0)) (G.1 1006 w 0) (G.1 1007 w 0)) (sp fL (G.1 2057 (Γ.2.1 w 0)) (G.1 1006 w 0) (sk (G.1 2057 (Γ.2.1 w 0)) (G.1 1006 w 0) (G.1 1007 w 0))))
                  refine zs_puti (r := 1009) (pc := 127) C dX9_token_127 w_X9_207 f_10_9 rfl (r_1009 0) (by omega) ?_
                  refine zs_aload_n (pc := 130) C dX9_token_130 rfl ?_
                  refine zs_aload_n (pc := 131) C dX9_token_131 rfl ?_
                  refine zs_geti (r := 1009) (pc := 132) C dX9_token_132 w_X9_207 f_10_9 rfl (r_1009 0) (fun v132 e132 l132 u132 => ?_)
                  try simp only [zuI_1, zuI_2, zuJ_1, zuJ_2, zuJ_3, zuP_1, zuP_2, zuP_3, zuC_1, zuC_2, reduceIte, Nat.reduceEqDiff, false_and, and_false, true_and, and_true, and_self, or_true, true_or, or_false, false_or] at e132
                  refine zs_if_lt (tgt := 142) (pc := 135) C dX9_token_135 (by decide) (fun h135 => ?_) (fun h135 => ?_)
                  · skip
                    refine zs_aload_n (pc := 142) C dX9_token_142 rfl ?_
                    refine zs_geti (r := 1007) (pc := 143) C dX9_token_143 w_X9_193 f_10_7 rfl (r_1007 0) (fun v143 e143 l143 u143 => ?_)
                    try simp only [zuI_1, zuI_2, zuJ_1, zuJ_2, zuJ_3, zuP_1, zuP_2, zuP_3, zuC_1, zuC_2, reduceIte, Nat.reduceEqDiff, false_and, and_false, true_and, and_true, and_self, or_true, true_or, or_false, false_or] at e143
                    refine zs_aload_n (pc := 146) C dX9_token_146 rfl ?_
                    refine zs_geti (r := 1010) (pc := 147) C dX9_token_147 w_X9_187 f_10_10 rfl (r_1010 0) (fun v147 e147 l147 u147 => ?_)
                    try simp only [zuI_1, zuI_2, zuJ_1, zuJ_2, zuJ_3, zuP_1, zuP_2, zuP_3, zuC_1, zuC_2, reduceIte, Nat.reduceEqDiff, false_and, and_false, true_and, and_true, and_self, or_true, true_or, or_false, false_or] at e147
                    first | refine zs_isub (pc := 150) C dX9_token_150 (by omega) ?_ | refine zs_isubF (pc := 150) C dX9_token_150 (fun z150 hz1501 hz1502 => ?_)
                    refine zs_bipush (pc := 151) C dX9_token_151 (by decide) (by decide) ?_
                    refine zs_icmp_le (tgt := 161) (pc := 153) C dX9_token_153 (by decide) (fun h153 => ?_) (fun h153 => ?_)
                    · skip
                      have h6 : ¬ 6 < sp fL (G.1 2057 (Γ.2.1 w 0)) (G.1 1006 w 0) (sk (G.1 2057 (Γ.2.1 w 0)) (G.1 1006 w 0) (G.1 1007 w 0)) - (sk (G.1 2057 (Γ.2.1 w 0)) (G.1 1006 w 0) (G.1 1007 w 0)) := by omega
                      rw [if_pos (by omega)] at hq124
                      have hK := tk_w1 hlt hl h6 (by omega)
                      have hN := hK.2.2
                      refine zs_iconst (pc := 161) C dX9_token_161 (by decide) ?_
                      refine zs_puti (r := 1008) (pc := 162) C dX9_token_162 w_X9_196 f_10_8 rfl (r_1008 0) (by omega) ?_
                      refine zs_aload_n (pc := 165) C dX9_token_165 rfl ?_
                      refine zs_geti (r := 1008) (pc := 166) C dX9_token_166 w_X9_196 f_10_8 rfl (r_1008 0) (fun v166 e166 l166 u166 => ?_)
                      try simp only [zuI_1, zuI_2, zuJ_1, zuJ_2, zuJ_3, zuP_1, zuP_2, zuP_3, zuC_1, zuC_2, reduceIte, Nat.reduceEqDiff, false_and, and_false, true_and, and_true, and_self, or_true, true_or, or_false, false_or] at e166
                      refine zs_iconst (pc := 169) C dX9_token_169 (by decide) ?_
                      refine zs_icmp_ne (tgt := 281) (pc := 170) C dX9_token_170 (by decide) (fun h170 => ?_) (fun h170 => ?_)
                      · skip
                        exact zs_vret (pc := 281) C hr hlk dX9_token_281 ⟨by repeat (first | exact zsm_rf | assumption | refine zsm_C (by decide) ?_ | refine zsm_I (by decide) ?_ | refine zsm_J ?_ | refine zsm_c (by assumption) (by decide) ?_), (by with_reducible repeat (first | exact LJr_rf | assumption | refine LJr_I (h := 0) (by decide) (Nat.zero_le _) ?_ | refine LJr_I (h := 3) (by decide) (by omega) ?_ | refine LJr_I (h := 4) (by decide) (by omega) ?_ | refine LJr_I (h := 5) (by decide) (by omega) ?_ | refine LJr_I (h := 7) (by decide) (by omega) ?_ | refine LJr_I (h := 20) (by decide) (by omega) ?_ | refine LJr_I (h := 64) (by decide) (by omega) ?_ | refine LJr_c (by assumption) ?_)), (by refine ⟨?_, ?_, ?_⟩ <;> first | assumption | (first | omega | (simp only [zuI_1, zuI_2, zuJ_1, zuJ_2, zuJ_3, zuP_1, zuP_2, zuP_3, zuC_1, zuC_2, reduceIte, Nat.reduceEqDiff, false_and, and_false, true_and, and_true, and_self, or_true, true_or, or_false, false_or]; first | assumption | omega)))⟩
                      · skip
                        refine zs_aload_n (pc := 173) C dX9_token_173 rfl ?_
                        refine zs_aload_n (pc := 174) C dX9_token_174 rfl ?_
                        refine zs_aload_n (pc := 175) C dX9_token_175 rfl ?_
                        refine zs_geti (r := 1010) (pc := 176) C dX9_token_176 w_X9_187 f_10_10 rfl (r_1010 0) (fun v176 e176 l176 u176 => ?_)
                        try simp only [zuI_1, zuI_2, zuJ_1, zuJ_2, zuJ_3, zuP_1, zuP_2, zuP_3, zuC_1, zuC_2, reduceIte, Nat.reduceEqDiff, false_and, and_false, true_and, and_true, and_self, or_true, true_or, or_false, false_or] at e176
                        refine zs_aload_n (pc := 179) C dX9_token_179 rfl ?_
                        refine zs_geti (r := 1007) (pc := 180) C dX9_token_180 w_X9_193 f_10_7 rfl (r_1007 0) (fun v180 e180 l180 u180 => ?_)
                        try simp only [zuI_1, zuI_2, zuJ_1, zuJ_2, zuJ_3, zuP_1, zuP_2, zuP_3, zuC_1, zuC_2, reduceIte, Nat.reduceEqDiff, false_and, and_false, true_and, and_true, and_self, or_true, true_or, or_false, false_or] at e180
                        refine zVip2 (pc := 183) C dX9_token_183 v_X9_210 (c_X9_packedF hX (by rw [e176, e180, hq3]; omega) (by rw [e176, e180, hq3, zuI_nf (by decide), zuI_nf (by decide), h90_0.1 2057 (by decide), h57, show G3.1 1010 w 0 = (sk (G.1 2057 (Γ.2.1 w 0)) (G.1 1006 w 0) (G.1 1007 w 0)) by omega]; exact hall)) (by decide) (by decide) ⟨Nat.zero_le _, Nat.zero_le _⟩ (Nat.le_of_ble_eq_true rfl) (fun x183 l183 u183 hp183 => ?_)
                        have hq183 := hp183
                        try simp only [zuI_1, zuI_2, zuJ_1, zuJ_2, zuJ_3, zuP_1, zuP_2, zuP_3, zuC_1, zuC_2, reduceIte, Nat.reduceEqDiff, false_and, and_false, true_and, and_true, and_self, or_true, true_or, or_false, false_or] at hq183
                        have h183 : x183 = (cd (G.1 2057 (Γ.2.1 w 0)) (sk (G.1 2057 (Γ.2.1 w 0)) (G.1 1006 w 0) (G.1 1007 w 0)) (sp fL (G.1 2057 (Γ.2.1 w 0)) (G.1 1006 w 0) (sk (G.1 2057 (Γ.2.1 w 0)) (G.1 1006 w 0) (G.1 1007 w 0)))) := by
                          first
                          | (exfalso; omega)
                          | (rw [hq183, e176, e180, hq3, show G3.1 1010 w 0 = (sk (G.1 2057 (Γ.2.1 w 0)) (G.1 1006 w 0) (G.1 1007 w 0)) by omega, zuI_nf (by decide), zuI_nf (by decide), h90_0.1 2057 (by decide), h57])
                        have hM : tkM (tkK (G.1 2057 (Γ.2.1 w 0)) (G.1 1006 w 0) (sk (G.1 2057 (Γ.2.1 w 0)) (G.1 1006 w 0) (G.1 1007 w 0))) (tkV (G.1 2057 (Γ.2.1 w 0)) (G.1 1006 w 0) (sk (G.1 2057 (Γ.2.1 w 0)) (G.1 1006 w 0) (G.1 1007 w 0))) 2 x183 := by
                          first
                          | (exfalso; omega)
                          | (rw [hK.1, hK.2.1, h183]; exact Or.inr (Or.inl ⟨rfl, rfl, rfl⟩))
                        refine zs_puti (r := 1009) (pc := 186) C dX9_token_186 w_X9_207 f_10_9 rfl (r_1009 0) (by omega) ?_
                        refine zs_goto (tgt := 281) (pc := 189) C dX9_token_189 (by decide) ?_
                        exact zs_vret (pc := 281) C hr hlk dX9_token_281 ⟨by repeat (first | exact zsm_rf | assumption | refine zsm_C (by decide) ?_ | refine zsm_I (by decide) ?_ | refine zsm_J ?_ | refine zsm_c (by assumption) (by decide) ?_), (by with_reducible repeat (first | exact LJr_rf | assumption | refine LJr_I (h := 0) (by decide) (Nat.zero_le _) ?_ | refine LJr_I (h := 3) (by decide) (by omega) ?_ | refine LJr_I (h := 4) (by decide) (by omega) ?_ | refine LJr_I (h := 5) (by decide) (by omega) ?_ | refine LJr_I (h := 7) (by decide) (by omega) ?_ | refine LJr_I (h := 20) (by decide) (by omega) ?_ | refine LJr_I (h := 64) (by decide) (by omega) ?_ | refine LJr_c (by assumption) ?_)), (by refine ⟨?_, ?_, ?_⟩ <;> first | assumption | (first | omega | (simp only [zuI_1, zuI_2, zuJ_1, zuJ_2, zuJ_3, zuP_1, zuP_2, zuP_3, zuC_1, zuC_2, reduceIte, Nat.reduceEqDiff, false_and, and_false, true_and, and_true, and_self, or_true, true_or, or_false, false_or]; first | assumption | omega)))⟩
                    · skip
                      have h6 : 6 < sp fL (G.1 2057 (Γ.2.1 w 0)) (G.1 1006 w 0) (sk (G.1 2057 (Γ.2.1 w 0)) (G.1 1006 w 0) (G.1 1007 w 0)) - (sk (G.1 2057 (Γ.2.1 w 0)) (G.1 1006 w 0) (G.1 1007 w 0)) := by omega
                      have hK := tk_w5 hlt hl h6
                      have hN := hK.2.2
                      have hM : tkM (tkK (G.1 2057 (Γ.2.1 w 0)) (G.1 1006 w 0) (sk (G.1 2057 (Γ.2.1 w 0)) (G.1 1006 w 0) (G.1 1007 w 0))) (tkV (G.1 2057 (Γ.2.1 w 0)) (G.1 1006 w 0) (sk (G.1 2057 (Γ.2.1 w 0)) (G.1 1006 w 0) (G.1 1007 w 0))) 6 x124 := by rw [hK.1, hK.2.1]; exact Or.inr (Or.inr (Or.inr (Or.inr (Or.inr ⟨rfl, Or.inl rfl⟩))))
                      refine zs_bipush (pc := 156) C dX9_token_156 (by decide) (by decide) ?_
                      refine zs_goto (tgt := 162) (pc := 158) C dX9_token_158 (by decide) ?_
                      refine zs_puti (r := 1008) (pc := 162) C dX9_token_162 w_X9_196 f_10_8 rfl (r_1008 0) (by omega) ?_
                      refine zs_aload_n (pc := 165) C dX9_token_165 rfl ?_
                      refine zs_geti (r := 1008) (pc := 166) C dX9_token_166 w_X9_196 f_10_8 rfl (r_1008 0) (fun v166 e166 l166 u166 => ?_)
                      try simp only [zuI_1, zuI_2, zuJ_1, zuJ_2, zuJ_3, zuP_1, zuP_2, zuP_3, zuC_1, zuC_2, reduceIte, Nat.reduceEqDiff, false_and, and_false, true_and, and_true, and_self, or_true, true_or, or_false, false_or] at e166
                      refine zs_iconst (pc := 169) C dX9_token_169 (by decide) ?_
                      refine zs_icmp_ne (tgt := 281) (pc := 170) C dX9_token_170 (by decide) (fun h170 => ?_) (fun h170 => ?_)
                      · skip
                        exact zs_vret (pc := 281) C hr hlk dX9_token_281 ⟨by repeat (first | exact zsm_rf | assumption | refine zsm_C (by decide) ?_ | refine zsm_I (by decide) ?_ | refine zsm_J ?_ | refine zsm_c (by assumption) (by decide) ?_), (by with_reducible repeat (first | exact LJr_rf | assumption | refine LJr_I (h := 0) (by decide) (Nat.zero_le _) ?_ | refine LJr_I (h := 3) (by decide) (by omega) ?_ | refine LJr_I (h := 4) (by decide) (by omega) ?_ | refine LJr_I (h := 5) (by decide) (by omega) ?_ | refine LJr_I (h := 7) (by decide) (by omega) ?_ | refine LJr_I (h := 20) (by decide) (by omega) ?_ | refine LJr_I (h := 64) (by decide) (by omega) ?_ | refine LJr_c (by assumption) ?_)), (by refine ⟨?_, ?_, ?_⟩ <;> first | assumption | (first | omega | (simp only [zuI_1, zuI_2, zuJ_1, zuJ_2, zuJ_3, zuP_1, zuP_2, zuP_3, zuC_1, zuC_2, reduceIte, Nat.reduceEqDiff, false_and, and_false, true_and, and_true, and_self, or_true, true_or, or_false, false_or]; first | assumption | omega)))⟩
                      · skip
                        refine zs_aload_n (pc := 173) C dX9_token_173 rfl ?_
                        refine zs_aload_n (pc := 174) C dX9_token_174 rfl ?_
                        refine zs_aload_n (pc := 175) C dX9_token_175 rfl ?_
                        refine zs_geti (r := 1010) (pc := 176) C dX9_token_176 w_X9_187 f_10_10 rfl (r_1010 0) (fun v176 e176 l176 u176 => ?_)
                        try simp only [zuI_1, zuI_2, zuJ_1, zuJ_2, zuJ_3, zuP_1, zuP_2, zuP_3, zuC_1, zuC_2, reduceIte, Nat.reduceEqDiff, false_and, and_false, true_and, and_true, and_self, or_true, true_or, or_false, false_or] at e176
                        refine zs_aload_n (pc := 179) C dX9_token_179 rfl ?_
                        refine zs_geti (r := 1007) (pc := 180) C dX9_token_180 w_X9_193 f_10_7 rfl (r_1007 0) (fun v180 e180 l180 u180 => ?_)
                        try simp only [zuI_1, zuI_2, zuJ_1, zuJ_2, zuJ_3, zuP_1, zuP_2, zuP_3, zuC_1, zuC_2, reduceIte, Nat.reduceEqDiff, false_and, and_false, true_and, and_true, and_self, or_true, true_or, or_false, false_or] at e180
                        refine zVip2 (pc := 183) C dX9_token_183 v_X9_210 (c_X9_packedF hX (by rw [e176, e180, hq3]; omega) (by rw [e176, e180, hq3, zuI_nf (by decide), zuI_nf (by decide), h90_0.1 2057 (by decide), h57, show G3.1 1010 w 0 = (sk (G.1 2057 (Γ.2.1 w 0)) (G.1 1006 w 0) (G.1 1007 w 0)) by omega]; exact hall)) (by decide) (by decide) ⟨Nat.zero_le _, Nat.zero_le _⟩ (Nat.le_of_ble_eq_true rfl) (fun x183 l183 u183 hp183 => ?_)
                        have hq183 := hp183
                        try simp only [zuI_1, zuI_2, zuJ_1, zuJ_2, zuJ_3, zuP_1, zuP_2, zuP_3, zuC_1, zuC_2, reduceIte, Nat.reduceEqDiff, false_and, and_false, true_and, and_true, and_self, or_true, true_or, or_false, false_or] at hq183
                        have h183 : x183 = (cd (G.1 2057 (Γ.2.1 w 0)) (sk (G.1 2057 (Γ.2.1 w 0)) (G.1 1006 w 0) (G.1 1007 w 0)) (sp fL (G.1 2057 (Γ.2.1 w 0)) (G.1 1006 w 0) (sk (G.1 2057 (Γ.2.1 w 0)) (G.1 1006 w 0) (G.1 1007 w 0)))) := by
                          first
                          | (exfalso; omega)
                          | (rw [hq183, e176, e180, hq3, show G3.1 1010 w 0 = (sk (G.1 2057 (Γ.2.1 w 0)) (G.1 1006 w 0) (G.1 1007 w 0)) by omega, zuI_nf (by decide), zuI_nf (by decide), h90_0.1 2057 (by decide), h57])
                        have hM : tkM (tkK (G.1 2057 (Γ.2.1 w 0)) (G.1 1006 w 0) (sk (G.1 2057 (Γ.2.1 w 0)) (G.1 1006 w 0) (G.1 1007 w 0))) (tkV (G.1 2057 (Γ.2.1 w 0)) (G.1 1006 w 0) (sk (G.1 2057 (Γ.2.1 w 0)) (G.1 1006 w 0) (G.1 1007 w 0))) 2 x183 := by
                          first
                          | (exfalso; omega)
                          | (rw [hK.1, hK.2.1, h183]; exact Or.inr (Or.inl ⟨rfl, rfl, rfl⟩))
                        refine zs_puti (r := 1009) (pc := 186) C dX9_token_186 w_X9_207 f_10_9 rfl (r_1009 0) (by omega) ?_
                        refine zs_goto (tgt := 281) (pc := 189) C dX9_token_189 (by decide) ?_
                        exact zs_vret (pc := 281) C hr hlk dX9_token_281 ⟨by repeat (first | exact zsm_rf | assumption | refine zsm_C (by decide) ?_ | refine zsm_I (by decide) ?_ | refine zsm_J ?_ | refine zsm_c (by assumption) (by decide) ?_), (by with_reducible repeat (first | exact LJr_rf | assumption | refine LJr_I (h := 0) (by decide) (Nat.zero_le _) ?_ | refine LJr_I (h := 3) (by decide) (by omega) ?_ | refine LJr_I (h := 4) (by decide) (by omega) ?_ | refine LJr_I (h := 5) (by decide) (by omega) ?_ | refine LJr_I (h := 7) (by decide) (by omega) ?_ | refine LJr_I (h := 20) (by decide) (by omega) ?_ | refine LJr_I (h := 64) (by decide) (by omega) ?_ | refine LJr_c (by assumption) ?_)), (by refine ⟨?_, ?_, ?_⟩ <;> first | assumption | (first | omega | (simp only [zuI_1, zuI_2, zuJ_1, zuJ_2, zuJ_3, zuP_1, zuP_2, zuP_3, zuC_1, zuC_2, reduceIte, Nat.reduceEqDiff, false_and, and_false, true_and, and_true, and_self, or_true, true_or, or_false, false_or]; first | assumption | omega)))⟩
                  · skip
                    have h6 : ¬ 6 < sp fL (G.1 2057 (Γ.2.1 w 0)) (G.1 1006 w 0) (sk (G.1 2057 (Γ.2.1 w 0)) (G.1 1006 w 0) (G.1 1007 w 0)) - (sk (G.1 2057 (Γ.2.1 w 0)) (G.1 1006 w 0) (G.1 1007 w 0)) := by intro q; rw [if_neg (by omega)] at hq124; omega
                    rw [if_pos (by omega)] at hq124
                    have hK := tk_w2 hlt hl h6 (k := lw (cd (G.1 2057 (Γ.2.1 w 0)) (sk (G.1 2057 (Γ.2.1 w 0)) (G.1 1006 w 0) (G.1 1007 w 0)) (sp fL (G.1 2057 (Γ.2.1 w 0)) (G.1 1006 w 0) (sk (G.1 2057 (Γ.2.1 w 0)) (G.1 1006 w 0) (G.1 1007 w 0))))) rfl (by omega)
                    have hN := hK.2.2
                    have hM : tkM (tkK (G.1 2057 (Γ.2.1 w 0)) (G.1 1006 w 0) (sk (G.1 2057 (Γ.2.1 w 0)) (G.1 1006 w 0) (G.1 1007 w 0))) (tkV (G.1 2057 (Γ.2.1 w 0)) (G.1 1006 w 0) (sk (G.1 2057 (Γ.2.1 w 0)) (G.1 1006 w 0) (G.1 1007 w 0))) 1 x124 := by rw [hK.1, hK.2.1, hq124]; exact Or.inr (Or.inr (Or.inl ⟨rfl, rfl, rfl⟩))
                    refine zs_iconst (pc := 138) C dX9_token_138 (by decide) ?_
                    refine zs_goto (tgt := 162) (pc := 139) C dX9_token_139 (by decide) ?_
                    refine zs_puti (r := 1008) (pc := 162) C dX9_token_162 w_X9_196 f_10_8 rfl (r_1008 0) (by omega) ?_
                    refine zs_aload_n (pc := 165) C dX9_token_165 rfl ?_
                    refine zs_geti (r := 1008) (pc := 166) C dX9_token_166 w_X9_196 f_10_8 rfl (r_1008 0) (fun v166 e166 l166 u166 => ?_)
                    try simp only [zuI_1, zuI_2, zuJ_1, zuJ_2, zuJ_3, zuP_1, zuP_2, zuP_3, zuC_1, zuC_2, reduceIte, Nat.reduceEqDiff, false_and, and_false, true_and, and_true, and_self, or_true, true_or, or_false, false_or] at e166
                    refine zs_iconst (pc := 169) C dX9_token_169 (by decide) ?_
                    refine zs_icmp_ne (tgt := 281) (pc := 170) C dX9_token_170 (by decide) (fun h170 => ?_) (fun h170 => ?_)
                    · skip
                      exact zs_vret (pc := 281) C hr hlk dX9_token_281 ⟨by repeat (first | exact zsm_rf | assumption | refine zsm_C (by decide) ?_ | refine zsm_I (by decide) ?_ | refine zsm_J ?_ | refine zsm_c (by assumption) (by decide) ?_), (by with_reducible repeat (first | exact LJr_rf | assumption | refine LJr_I (h := 0) (by decide) (Nat.zero_le _) ?_ | refine LJr_I (h := 3) (by decide) (by omega) ?_ | refine LJr_I (h := 4) (by decide) (by omega) ?_ | refine LJr_I (h := 5) (by decide) (by omega) ?_ | refine LJr_I (h := 7) (by decide) (by omega) ?_ | refine LJr_I (h := 20) (by decide) (by omega) ?_ | refine LJr_I (h := 64) (by decide) (by omega) ?_ | refine LJr_c (by assumption) ?_)), (by refine ⟨?_, ?_, ?_⟩ <;> first | assumption | (first | omega | (simp only [zuI_1, zuI_2, zuJ_1, zuJ_2, zuJ_3, zuP_1, zuP_2, zuP_3, zuC_1, zuC_2, reduceIte, Nat.reduceEqDiff, false_and, and_false, true_and, and_true, and_self, or_true, true_or, or_false, false_or]; first | assumption | omega)))⟩
                    · skip
                      refine zs_aload_n (pc := 173) C dX9_token_173 rfl ?_
                      refine zs_aload_n (pc := 174) C dX9_token_174 rfl ?_
                      refine zs_aload_n (pc := 175) C dX9_token_175 rfl ?_
                      refine zs_geti (r := 1010) (pc := 176) C dX9_token_176 w_X9_187 f_10_10 rfl (r_1010 0) (fun v176 e176 l176 u176 => ?_)
                      try simp only [zuI_1, zuI_2, zuJ_1, zuJ_2, zuJ_3, zuP_1, zuP_2, zuP_3, zuC_1, zuC_2, reduceIte, Nat.reduceEqDiff, false_and, and_false, true_and, and_true, and_self, or_true, true_or, or_false, false_or] at e176
                      refine zs_aload_n (pc := 179) C dX9_token_179 rfl ?_
                      refine zs_geti (r := 1007) (pc := 180) C dX9_token_180 w_X9_193 f_10_7 rfl (r_1007 0) (fun v180 e180 l180 u180 => ?_)
                      try simp only [zuI_1, zuI_2, zuJ_1, zuJ_2, zuJ_3, zuP_1, zuP_2, zuP_3, zuC_1, zuC_2, reduceIte, Nat.reduceEqDiff, false_and, and_false, true_and, and_true, and_self, or_true, true_or, or_false, false_or] at e180
                      refine zVip2 (pc := 183) C dX9_token_183 v_X9_210 (c_X9_packedF hX (by rw [e176, e180, hq3]; omega) (by rw [e176, e180, hq3, zuI_nf (by decide), zuI_nf (by decide), h90_0.1 2057 (by decide), h57, show G3.1 1010 w 0 = (sk (G.1 2057 (Γ.2.1 w 0)) (G.1 1006 w 0) (G.1 1007 w 0)) by omega]; exact hall)) (by decide) (by decide) ⟨Nat.zero_le _, Nat.zero_le _⟩ (Nat.le_of_ble_eq_true rfl) (fun x183 l183 u183 hp183 => ?_)
                      have hq183 := hp183
                      try simp only [zuI_1, zuI_2, zuJ_1, zuJ_2, zuJ_3, zuP_1, zuP_2, zuP_3, zuC_1, zuC_2, reduceIte, Nat.reduceEqDiff, false_and, and_false, true_and, and_true, and_self, or_true, true_or, or_false, false_or] at hq183
                      have h183 : x183 = (cd (G.1 2057 (Γ.2.1 w 0)) (sk (G.1 2057 (Γ.2.1 w 0)) (G.1 1006 w 0) (G.1 1007 w 0)) (sp fL (G.1 2057 (Γ.2.1 w 0)) (G.1 1006 w 0) (sk (G.1 2057 (Γ.2.1 w 0)) (G.1 1006 w 0) (G.1 1007 w 0)))) := by
                        first
                        | (exfalso; omega)
                        | (rw [hq183, e176, e180, hq3, show G3.1 1010 w 0 = (sk (G.1 2057 (Γ.2.1 w 0)) (G.1 1006 w 0) (G.1 1007 w 0)) by omega, zuI_nf (by decide), zuI_nf (by decide), h90_0.1 2057 (by decide), h57])
                      have hM : tkM (tkK (G.1 2057 (Γ.2.1 w 0)) (G.1 1006 w 0) (sk (G.1 2057 (Γ.2.1 w 0)) (G.1 1006 w 0) (G.1 1007 w 0))) (tkV (G.1 2057 (Γ.2.1 w 0)) (G.1 1006 w 0) (sk (G.1 2057 (Γ.2.1 w 0)) (G.1 1006 w 0) (G.1 1007 w 0))) 2 x183 := by
                        first
                        | (exfalso; omega)
                        | (rw [hK.1, hK.2.1, h183]; exact Or.inr (Or.inl ⟨rfl, rfl, rfl⟩))
                      refine zs_puti (r := 1009) (pc := 186) C dX9_token_186 w_X9_207 f_10_9 rfl (r_1009 0) (by omega) ?_
                      refine zs_goto (tgt := 281) (pc := 189) C dX9_token_189 (by decide) ?_
                      exact zs_vret (pc := 281) C hr hlk dX9_token_281 ⟨by repeat (first | exact zsm_rf | assumption | refine zsm_C (by decide) ?_ | refine zsm_I (by decide) ?_ | refine zsm_J ?_ | refine zsm_c (by assumption) (by decide) ?_), (by with_reducible repeat (first | exact LJr_rf | assumption | refine LJr_I (h := 0) (by decide) (Nat.zero_le _) ?_ | refine LJr_I (h := 3) (by decide) (by omega) ?_ | refine LJr_I (h := 4) (by decide) (by omega) ?_ | refine LJr_I (h := 5) (by decide) (by omega) ?_ | refine LJr_I (h := 7) (by decide) (by omega) ?_ | refine LJr_I (h := 20) (by decide) (by omega) ?_ | refine LJr_I (h := 64) (by decide) (by omega) ?_ | refine LJr_c (by assumption) ?_)), (by refine ⟨?_, ?_, ?_⟩ <;> first | assumption | (first | omega | (simp only [zuI_1, zuI_2, zuJ_1, zuJ_2, zuJ_3, zuP_1, zuP_2, zuP_3, zuC_1, zuC_2, reduceIte, Nat.reduceEqDiff, false_and, and_false, true_and, and_true, and_self, or_true, true_or, or_false, false_or]; first | assumption | omega)))⟩
                · skip
                  have hL9 := hq95.2.mp (by omega)
                  rw [e92] at hL9
                  have hLb : fL ((G.1 2057 (Γ.2.1 w 0)) (G3.1 1007 w 0).toNat) = true := by rw [fL_i, ← h57, ← h90_0.1 2057 (by decide)]; omega
                  have hSP3 := zsm_at h90_0 1006 w 0 (by decide)
                  refine zs_aload_n (pc := 101) C dX9_token_101 rfl ?_
                  refine zs_dupa (pc := 102) C dX9_token_102 ?_
                  refine zs_geti (r := 1007) (pc := 103) C dX9_token_103 w_X9_193 f_10_7 rfl (r_1007 0) (fun v103 e103 l103 u103 => ?_)
                  refine zs_iconst (pc := 106) C dX9_token_106 (by decide) ?_
                  first | refine zs_iadd (pc := 107) C dX9_token_107 (by omega) ?_ | refine zs_iaddF (pc := 107) C dX9_token_107 (fun z107 hz1071 hz1072 => ?_)
                  refine zs_puti (r := 1007) (pc := 108) C dX9_token_108 w_X9_193 f_10_7 rfl (r_1007 0) (by omega) ?_
                  refine zs_goto (tgt := 90) (pc := 111) C dX9_token_111 (by decide) ?_
                  exact zs_wk (ih90 _ (by repeat (first | exact zsm_rf | assumption | refine zsm_C (by decide) ?_ | refine zsm_I (by decide) ?_ | refine zsm_J ?_ | refine zsm_c (by assumption) (by decide) ?_)) (by first | omega | (simp only [zuI_1, zuI_2, zuJ_1, zuJ_2, zuJ_3, zuP_1, zuP_2, zuP_3, zuC_1, zuC_2, reduceIte, Nat.reduceEqDiff, false_and, and_false, true_and, and_true, and_self, or_true, true_or, or_false, false_or]; omega)) (by simp only [zuI_1, zuI_2, zuJ_1, zuJ_2, zuJ_3, zuP_1, zuP_2, zuP_3, zuC_1, zuC_2, reduceIte, Nat.reduceEqDiff, false_and, and_false, true_and, and_true, and_self, or_true, true_or, or_false, false_or]; rw [← h90_2, show v103 + 1 = G3.1 1007 w 0 + 1 by omega]; exact (sp_s (by omega) hLb).symm) (by with_reducible repeat (first | exact LJr_rf | assumption | refine LJr_I (h := 0) (by decide) (Nat.zero_le _) ?_ | refine LJr_I (h := 3) (by decide) (by omega) ?_ | refine LJr_I (h := 4) (by decide) (by omega) ?_ | refine LJr_I (h := 5) (by decide) (by omega) ?_ | refine LJr_I (h := 7) (by decide) (by omega) ?_ | refine LJr_I (h := 20) (by decide) (by omega) ?_ | refine LJr_I (h := 64) (by decide) (by omega) ?_ | refine LJr_c (by assumption) ?_)) (by first | omega | (simp only [zuI_1, zuI_2, zuJ_1, zuJ_2, zuJ_3, zuP_1, zuP_2, zuP_3, zuC_1, zuC_2, reduceIte, Nat.reduceEqDiff, false_and, and_false, true_and, and_true, and_self, or_true, true_or, or_false, false_or]; omega))) (zwk_s rfl zwk_0)
            exact zs_wk (L90 _ _ (by repeat (first | exact zsm_rf | assumption | refine zsm_C (by decide) ?_ | refine zsm_I (by decide) ?_ | refine zsm_J ?_ | refine zsm_c (by assumption) (by decide) ?_)) (by omega) (by rw [hh2]) (by with_reducible repeat (first | exact LJr_rf | assumption | refine LJr_I (h := 0) (by decide) (Nat.zero_le _) ?_ | refine LJr_I (h := 3) (by decide) (by omega) ?_ | refine LJr_I (h := 4) (by decide) (by omega) ?_ | refine LJr_I (h := 5) (by decide) (by omega) ?_ | refine LJr_I (h := 7) (by decide) (by omega) ?_ | refine LJr_I (h := 20) (by decide) (by omega) ?_ | refine LJr_I (h := 64) (by decide) (by omega) ?_ | refine LJr_c (by assumption) ?_)) (Nat.lt_succ_self _)) (zwk_s rfl zwk_0)
        · skip
          have hN := tkN_0 (b := (G.1 2057 (Γ.2.1 w 0))) (n := (G.1 1006 w 0)) (p := (sk (G.1 2057 (Γ.2.1 w 0)) (G.1 1006 w 0) (G.1 1007 w 0))) (by omega)
          have hM : tkM (tkK (G.1 2057 (Γ.2.1 w 0)) (G.1 1006 w 0) (sk (G.1 2057 (Γ.2.1 w 0)) (G.1 1006 w 0) (G.1 1007 w 0))) (tkV (G.1 2057 (Γ.2.1 w 0)) (G.1 1006 w 0) (sk (G.1 2057 (Γ.2.1 w 0)) (G.1 1006 w 0) (G.1 1007 w 0))) 0 (G2.1 1009 w 0) := by rw [(tk_0 (b := (G.1 2057 (Γ.2.1 w 0))) (n := (G.1 1006 w 0)) (p := (sk (G.1 2057 (Γ.2.1 w 0)) (G.1 1006 w 0) (G.1 1007 w 0))) (by omega)).1]; exact Or.inl ⟨rfl, rfl⟩
          refine zs_aload_n (pc := 71) C dX9_token_71 rfl ?_
          refine zs_iconst (pc := 72) C dX9_token_72 (by decide) ?_
          refine zs_puti (r := 1008) (pc := 73) C dX9_token_73 w_X9_196 f_10_8 rfl (r_1008 0) (by omega) ?_
          refine zs_goto (tgt := 281) (pc := 76) C dX9_token_76 (by decide) ?_
          exact zs_vret (pc := 281) C hr hlk dX9_token_281 ⟨by repeat (first | exact zsm_rf | assumption | refine zsm_C (by decide) ?_ | refine zsm_I (by decide) ?_ | refine zsm_J ?_ | refine zsm_c (by assumption) (by decide) ?_), (by with_reducible repeat (first | exact LJr_rf | assumption | refine LJr_I (h := 0) (by decide) (Nat.zero_le _) ?_ | refine LJr_I (h := 3) (by decide) (by omega) ?_ | refine LJr_I (h := 4) (by decide) (by omega) ?_ | refine LJr_I (h := 5) (by decide) (by omega) ?_ | refine LJr_I (h := 7) (by decide) (by omega) ?_ | refine LJr_I (h := 20) (by decide) (by omega) ?_ | refine LJr_I (h := 64) (by decide) (by omega) ?_ | refine LJr_c (by assumption) ?_)), (by refine ⟨?_, ?_, ?_⟩ <;> first | assumption | (first | omega | (simp only [zuI_1, zuI_2, zuJ_1, zuJ_2, zuJ_3, zuP_1, zuP_2, zuP_3, zuC_1, zuC_2, reduceIte, Nat.reduceEqDiff, false_and, and_false, true_and, and_true, and_self, or_true, true_or, or_false, false_or]; first | assumption | omega)))⟩
      refine zs_geti (r := 1007) (pc := 1) C dX9_token_1 w_X9_193 f_10_7 rfl (r_1007 0) (fun v1 e1 l1 u1 => ?_)
      refine zs_aload_n (pc := 4) C dX9_token_4 rfl ?_
      refine zs_geti (r := 1006) (pc := 5) C dX9_token_5 w_X9_190 f_10_6 rfl (r_1006 0) (fun v5 e5 l5 u5 => ?_)
      refine zs_icmp_ge (tgt := 52) (pc := 8) C dX9_token_8 (by decide) (fun h8 => ?_) (fun h8 => ?_)
      · skip
        exact zs_wk (J52 _ rfl (by rw [← h0_2, sk, sp_e]; intro q; have q1 := q.1; have q2 := fB_i.mp q.2; rw [← h0_0.1 2057 (by decide)] at q2; first | omega | (have q4 : v33 = v19 := (by rw [e33, e19, e30, e16]); rw [← e16, ← e19] at q2; omega))) (zwk_s rfl zwk_0)
      · skip
        refine zs_aload_n (pc := 11) C dX9_token_11 rfl ?_
        refine zs_getf (pc := 12) C dX9_token_12 w_X9_7 f_10_0 (by decide) ?_
        refine zs_aload_n (pc := 15) C dX9_token_15 rfl ?_
        refine zs_geti (r := 1007) (pc := 16) C dX9_token_16 w_X9_193 f_10_7 rfl (r_1007 0) (fun v16 e16 l16 u16 => ?_)
        refine zs_iald (r := 2057) (pc := 19) C dX9_token_19 a_57 (by decide) (by omega) rfl (r_2057 _) (fun v19 e19 l19 u19 => ?_)
        refine zs_bipush (pc := 20) C dX9_token_20 (by decide) (by decide) ?_
        refine zs_icmp_eq (tgt := 39) (pc := 22) C dX9_token_22 (by decide) (fun h22 => ?_) (fun h22 => ?_)
        · skip
          refine zs_aload_n (pc := 39) C dX9_token_39 rfl ?_
          refine zs_dupa (pc := 40) C dX9_token_40 ?_
          refine zs_geti (r := 1007) (pc := 41) C dX9_token_41 w_X9_193 f_10_7 rfl (r_1007 0) (fun v41 e41 l41 u41 => ?_)
          refine zs_iconst (pc := 44) C dX9_token_44 (by decide) ?_
          first | refine zs_iadd (pc := 45) C dX9_token_45 (by omega) ?_ | refine zs_iaddF (pc := 45) C dX9_token_45 (fun z45 hz451 hz452 => ?_)
          refine zs_puti (r := 1007) (pc := 46) C dX9_token_46 w_X9_193 f_10_7 rfl (r_1007 0) (by omega) ?_
          refine zs_goto (tgt := 0) (pc := 49) C dX9_token_49 (by decide) ?_
          exact zs_wk (ih0 _ (by repeat (first | exact zsm_rf | assumption | refine zsm_C (by decide) ?_ | refine zsm_I (by decide) ?_ | refine zsm_J ?_ | refine zsm_c (by assumption) (by decide) ?_)) (by first | omega | (simp only [zuI_1, zuI_2, zuJ_1, zuJ_2, zuJ_3, zuP_1, zuP_2, zuP_3, zuC_1, zuC_2, reduceIte, Nat.reduceEqDiff, false_and, and_false, true_and, and_true, and_self, or_true, true_or, or_false, false_or]; omega)) (by simp only [zuI_1, zuI_2, zuJ_1, zuJ_2, zuJ_3, zuP_1, zuP_2, zuP_3, zuC_1, zuC_2, reduceIte, Nat.reduceEqDiff, false_and, and_false, true_and, and_true, and_self, or_true, true_or, or_false, false_or]; rw [← h0_2, show v41 + 1 = G1.1 1007 w 0 + 1 by omega]; exact (sp_s (by omega) (by rw [fB_i, ← h0_0.1 2057 (by decide)]; first | (rw [← e16, ← e19]; omega) | (rw [← e30, ← e33]; omega))).symm) (by with_reducible repeat (first | exact LJr_rf | assumption | refine LJr_I (h := 0) (by decide) (Nat.zero_le _) ?_ | refine LJr_I (h := 3) (by decide) (by omega) ?_ | refine LJr_I (h := 4) (by decide) (by omega) ?_ | refine LJr_I (h := 5) (by decide) (by omega) ?_ | refine LJr_I (h := 7) (by decide) (by omega) ?_ | refine LJr_I (h := 20) (by decide) (by omega) ?_ | refine LJr_I (h := 64) (by decide) (by omega) ?_ | refine LJr_c (by assumption) ?_)) (by first | omega | (simp only [zuI_1, zuI_2, zuJ_1, zuJ_2, zuJ_3, zuP_1, zuP_2, zuP_3, zuC_1, zuC_2, reduceIte, Nat.reduceEqDiff, false_and, and_false, true_and, and_true, and_self, or_true, true_or, or_false, false_or]; omega))) (zwk_s rfl zwk_0)
        · skip
          refine zs_aload_n (pc := 25) C dX9_token_25 rfl ?_
          refine zs_getf (pc := 26) C dX9_token_26 w_X9_7 f_10_0 (by decide) ?_
          refine zs_aload_n (pc := 29) C dX9_token_29 rfl ?_
          refine zs_geti (r := 1007) (pc := 30) C dX9_token_30 w_X9_193 f_10_7 rfl (r_1007 0) (fun v30 e30 l30 u30 => ?_)
          refine zs_iald (r := 2057) (pc := 33) C dX9_token_33 a_57 (by decide) (by omega) rfl (r_2057 _) (fun v33 e33 l33 u33 => ?_)
          refine zs_bipush (pc := 34) C dX9_token_34 (by decide) (by decide) ?_
          refine zs_icmp_ne (tgt := 52) (pc := 36) C dX9_token_36 (by decide) (fun h36 => ?_) (fun h36 => ?_)
          · skip
            exact zs_wk (J52 _ rfl (by rw [← h0_2, sk, sp_e]; intro q; have q1 := q.1; have q2 := fB_i.mp q.2; rw [← h0_0.1 2057 (by decide)] at q2; first | omega | (have q4 : v33 = v19 := (by rw [e33, e19, e30, e16]); rw [← e16, ← e19] at q2; omega))) (zwk_s rfl zwk_0)
          · skip
            refine zs_aload_n (pc := 39) C dX9_token_39 rfl ?_
            refine zs_dupa (pc := 40) C dX9_token_40 ?_
            refine zs_geti (r := 1007) (pc := 41) C dX9_token_41 w_X9_193 f_10_7 rfl (r_1007 0) (fun v41 e41 l41 u41 => ?_)
            refine zs_iconst (pc := 44) C dX9_token_44 (by decide) ?_
            first | refine zs_iadd (pc := 45) C dX9_token_45 (by omega) ?_ | refine zs_iaddF (pc := 45) C dX9_token_45 (fun z45 hz451 hz452 => ?_)
            refine zs_puti (r := 1007) (pc := 46) C dX9_token_46 w_X9_193 f_10_7 rfl (r_1007 0) (by omega) ?_
            refine zs_goto (tgt := 0) (pc := 49) C dX9_token_49 (by decide) ?_
            exact zs_wk (ih0 _ (by repeat (first | exact zsm_rf | assumption | refine zsm_C (by decide) ?_ | refine zsm_I (by decide) ?_ | refine zsm_J ?_ | refine zsm_c (by assumption) (by decide) ?_)) (by first | omega | (simp only [zuI_1, zuI_2, zuJ_1, zuJ_2, zuJ_3, zuP_1, zuP_2, zuP_3, zuC_1, zuC_2, reduceIte, Nat.reduceEqDiff, false_and, and_false, true_and, and_true, and_self, or_true, true_or, or_false, false_or]; omega)) (by simp only [zuI_1, zuI_2, zuJ_1, zuJ_2, zuJ_3, zuP_1, zuP_2, zuP_3, zuC_1, zuC_2, reduceIte, Nat.reduceEqDiff, false_and, and_false, true_and, and_true, and_self, or_true, true_or, or_false, false_or]; rw [← h0_2, show v41 + 1 = G1.1 1007 w 0 + 1 by omega]; exact (sp_s (by omega) (by rw [fB_i, ← h0_0.1 2057 (by decide)]; first | (rw [← e16, ← e19]; omega) | (rw [← e30, ← e33]; omega))).symm) (by with_reducible repeat (first | exact LJr_rf | assumption | refine LJr_I (h := 0) (by decide) (Nat.zero_le _) ?_ | refine LJr_I (h := 3) (by decide) (by omega) ?_ | refine LJr_I (h := 4) (by decide) (by omega) ?_ | refine LJr_I (h := 5) (by decide) (by omega) ?_ | refine LJr_I (h := 7) (by decide) (by omega) ?_ | refine LJr_I (h := 20) (by decide) (by omega) ?_ | refine LJr_I (h := 64) (by decide) (by omega) ?_ | refine LJr_c (by assumption) ?_)) (by first | omega | (simp only [zuI_1, zuI_2, zuJ_1, zuJ_2, zuJ_3, zuP_1, zuP_2, zuP_3, zuC_1, zuC_2, reduceIte, Nat.reduceEqDiff, false_and, and_false, true_and, and_true, and_self, or_true, true_or, or_false, false_or]; omega))) (zwk_s rfl zwk_0)
  exact zs_wk (L0 _ _ (by repeat (first | exact zsm_rf | assumption | refine zsm_C (by decide) ?_ | refine zsm_I (by decide) ?_ | refine zsm_J ?_ | refine zsm_c (by assumption) (by decide) ?_)) (by omega) rfl (by with_reducible repeat (first | exact LJr_rf | assumption | refine LJr_I (h := 0) (by decide) (Nat.zero_le _) ?_ | refine LJr_I (h := 3) (by decide) (by omega) ?_ | refine LJr_I (h := 4) (by decide) (by omega) ?_ | refine LJr_I (h := 5) (by decide) (by omega) ?_ | refine LJr_I (h := 7) (by decide) (by omega) ?_ | refine LJr_I (h := 20) (by decide) (by omega) ?_ | refine LJr_I (h := 64) (by decide) (by omega) ?_ | refine LJr_c (by assumption) ?_)) (Nat.lt_succ_self _)) (zwk_s rfl zwk_0)

theorem c_X9_tokenGY {l : Launch} {Γ : zΓ} {G : zH} {w : Nat} {b : Nat → Int} {n : Int} {A : aS} (hX : zXs Γ) (hG : gT b n Γ w A G) : zMet l Γ yX9_token cX9_token 1 none 1 [zr 10 w] G (zpv (fun G' => zsm [1007, 1008, 1009, 1010] G G' ∧ LJr G G' ∧ gT b n Γ w (sNext b n A) G')) :=
  zMet_mo (c_X9_tokenY hX (gT_n hG)) (fun r G' h => ⟨h.1, h.2.1, h.2.2.1, gT_next hG h.2.1 h.2.2.2⟩)
