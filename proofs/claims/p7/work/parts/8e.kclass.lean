/-- a telling at t holds A -/
def TV (Γ : zΓ) (t : Nat) (A : aS) (G : zH) : Prop := ∀ f j : Nat, 4 ≤ f → f < 22 → G.1 (creg f) (cad Γ 0 t f) j = A f j
theorem cad_w {Γ : zΓ} {w t f : Nat} (h4 : 4 ≤ f) (hf : f < 22) : cad Γ w t f = cad Γ 0 t f := by
  rcases (show f = 4 ∨ f = 5 ∨ f = 6 ∨ f = 7 ∨ f = 8 ∨ f = 9 ∨ f = 10 ∨ f = 11 ∨ f = 12 ∨ f = 13 ∨ f = 14 ∨ f = 15 ∨ f = 16 ∨ f = 17 ∨ f = 18 ∨ f = 19 ∨ f = 20 ∨ f = 21 by omega) with rfl | rfl | rfl | rfl | rfl | rfl | rfl | rfl | rfl | rfl | rfl | rfl | rfl | rfl | rfl | rfl | rfl | rfl <;> rfl
theorem TV_QC {b : Nat → Int} {n : Int} {N : Nat} {Γ : zΓ} {w t : Nat} {A : aS} {G : zH} (h : QC b n N Γ w t A G) : TV Γ t A G := fun f j h4 hf => by
  rw [← cad_w (w := w) h4 hf]
  exact h.1.2 f j (by omega)
theorem TV_n {Γ : zΓ} {t : Nat} {A : aS} {G G1 : zH} {rs : List Nat} (hs : zsn rs G G1) (hr : ∀ f : Nat, f < 22 → 4 ≤ f → creg f ∉ rs) (h : TV Γ t A G) : TV Γ t A G1 := fun f j h4 hf => by
  rw [hs _ (hr f hf h4)]
  exact h f j h4 hf
/-- two tellings have no row in common -/
def AP (Γ : zΓ) (t u : Nat) : Prop := ∀ f : Nat, 4 ≤ f → f < 22 → cad Γ 0 t f ≠ cad Γ 0 u f
theorem AP_s {Γ : zΓ} {t u : Nat} (h : AP Γ t u) : AP Γ u t := fun f h4 hf q => h f h4 hf q.symm
theorem TV_OF {Γ : zΓ} {w t u : Nat} {A : aS} {G G1 : zH} (hO : OF Γ w t G G1) (ha : AP Γ t u) (h : TV Γ u A G) : TV Γ u A G1 := fun f j h4 hf => by
  rw [hO f _ j h4 hf (fun q => ha f h4 hf (by rw [← cad_w (w := w) h4 hf]; exact q.symm))]
  exact h f j h4 hf
theorem OF_n {Γ : zΓ} {w t : Nat} {G G1 G2 : zH} {rs : List Nat} (hs : zsn rs G1 G2) (hr : ∀ f : Nat, f < 22 → 4 ≤ f → creg f ∉ rs) (h : OF Γ w t G G1) : OF Γ w t G G2 := fun f a j h4 hf ha => by
  rw [hs _ (hr f hf h4)]
  exact h f a j h4 hf ha
theorem OF_b {Γ : zΓ} {w t : Nat} {G0 G G1 : zH} {rs : List Nat} (hs : zsn rs G0 G) (hr : ∀ f : Nat, f < 22 → 4 ≤ f → creg f ∉ rs) (h : OF Γ w t G G1) : OF Γ w t G0 G1 := fun f a j h4 hf ha => by
  rw [h f a j h4 hf ha, hs _ (hr f hf h4)]

set_option maxHeartbeats 4000000 in
set_option maxRecDepth 100000 in
theorem c_X3_handOverK {l : Launch} {Γ : zΓ} {G : zH} {w b : Nat} (hX : zXs Γ)  : zMet l Γ yX3_handOver cX3_handOver 3 (some (.object "ConfessionMill$Telling")) 0 [zr 4 w, zr 6 b] G (zpa 6 (fun x G' => zsn [] G G' ∧ (x = G.2.2 401 w ∧ G' = zuP G 401 w b))) := by
  refine zMet_of RX3 hX (by decide) rfl (Nat.le_of_ble_eq_true rfl) ?_
  intro p e s m args below meth c C hr hlk
  show Z p l e (zrm 0) s m args below meth c Γ 3 0 0 (MQ below (zQc Γ (zpa 6 (fun x G' => zsn [] G G' ∧ (x = G.2.2 401 w ∧ G' = zuP G 401 w b)))) args s 0 0 (zA Γ)) 0 [some (zr 4 w), some (zr 6 b), none] [] G
  refine zs_aload_n (pc := 0) C dX3_handOver_0 rfl ?_
  refine zs_getd (r := 401) (pc := 1) C dX3_handOver_1 w_X3_21 f_4_1 (by decide) rfl (fun v1 e1 t1 => ?_)
  refine zs_astore_n (pc := 4) C dX3_handOver_4 (by decide) ?_
  dsimp only [zset, zclr, znone]
  refine zs_aload_n (pc := 5) C dX3_handOver_5 rfl ?_
  refine zs_aload_n (pc := 6) C dX3_handOver_6 rfl ?_
  refine zs_putd (r := 401) (pc := 7) C dX3_handOver_7 w_X3_21 f_4_1 (by decide) rfl ?_
  refine zs_aload_n (pc := 10) C dX3_handOver_10 rfl ?_
  exact zs_aret (pc := 11) C hr hlk dX3_handOver_11 ⟨by repeat (first | exact zsn_rf | assumption | refine zsn_C (by decide) ?_ | refine zsn_I (by decide) ?_ | refine zsn_J ?_ | refine zsn_P ?_ | refine zsn_m (by assumption) (by decide) ?_ | refine zsn_c (by assumption) (by decide) ?_), ⟨e1, rfl⟩⟩

set_option maxHeartbeats 4000000 in
set_option maxRecDepth 100000 in
theorem c_X8_textK {l : Launch} {Γ : zΓ} {G : zH} {w : Nat} {k : Int} (hX : zXs Γ) (hw : ∀ q9 : Nat, q9 < 24 → G.1 2044 (Γ.2.1 (Γ.2.1 (Γ.2.1 w 2) 0) 0) q9 = wl.getD q9 0) : zMet l Γ yX8_text cX8_text 3 (some .int) 7 [zr 9 w, zi k] G (zpi (fun x G' => zsn [402, 403, 404, 405, 406, 407, 408, 409, 410, 411, 412, 413, 2025, 206, 207, 2014, 2015, 2016, 2017, 2036, 2037, 2038, 2039, 2040, 2041, 2042, 2043, 609, 610, 611, 612, 704, 705, 706, 2045, 2046, 2047, 901, 912, 913, 510, 2048, 2049, 2050, 2051, 2052, 2053, 809, 810, 811, 812, 813, 910, 911, 2020] G G' ∧ ((0 ≤ k ∧ k ≤ G.1 901 w 0 → G'.1 901 w 0 = 0 ∧ ∃ A0 : aS, sCl A0 ∧ G'.1 912 w 0 = (sLN (G.1 2055 (Γ.2.1 w 0)) k 700 (sNext (G.1 2055 (Γ.2.1 w 0)) k A0)) 1 0 ∧ G'.1 913 w 0 = (sLN (G.1 2055 (Γ.2.1 w 0)) k 700 (sNext (G.1 2055 (Γ.2.1 w 0)) k A0)) 2 0 ∧ x = (if (sLN (G.1 2055 (Γ.2.1 w 0)) k 700 (sNext (G.1 2055 (Γ.2.1 w 0)) k A0)) 1 0 = 0 then sLC (G.1 2055 (Γ.2.1 w 0)) k 700 0 (sNext (G.1 2055 (Γ.2.1 w 0)) k A0) else -1) ∧ ((sLN (G.1 2055 (Γ.2.1 w 0)) k 700 (sNext (G.1 2055 (Γ.2.1 w 0)) k A0)) 1 0 = 0 → G'.2.2 903 w = (G.2.2 401 (Γ.2.1 w 2)) ∧ G'.2.2 401 (Γ.2.1 w 2) = G.2.2 903 w ∧ TV Γ (G.2.2 401 (Γ.2.1 w 2)) (sLN (G.1 2055 (Γ.2.1 w 0)) k 700 (sNext (G.1 2055 (Γ.2.1 w 0)) k A0)) G') ∧ ((sLN (G.1 2055 (Γ.2.1 w 0)) k 700 (sNext (G.1 2055 (Γ.2.1 w 0)) k A0)) 1 0 ≠ 0 → (G'.2.2 903 w = G.2.2 903 w ∧ G'.2.2 401 (Γ.2.1 w 2) = (G.2.2 401 (Γ.2.1 w 2))) ∧ OF Γ (Γ.2.1 w 2) (G.2.2 401 (Γ.2.1 w 2)) G G')) ∧ (¬ (0 ≤ k ∧ k ≤ G.1 901 w 0) → x = -2 ∧ G'.1 901 w 0 = G.1 901 w 0 ∧ G'.1 912 w 0 = G.1 912 w 0 ∧ G'.1 913 w 0 = G.1 913 w 0 ∧ (G'.2.2 903 w = G.2.2 903 w ∧ G'.2.2 401 (Γ.2.1 w 2) = (G.2.2 401 (Γ.2.1 w 2))) ∧ OF Γ (Γ.2.1 w 2) (G.2.2 401 (Γ.2.1 w 2)) G G')))) := by
  refine zMet_of RX8 hX (by decide) rfl (Nat.le_of_ble_eq_true rfl) ?_
  intro p e s m args below meth c C hr hlk
  show Z p l e (zrm 7) s m args below meth c Γ 3 0 0 (MQ below (zQc Γ (zpi (fun x G' => zsn [402, 403, 404, 405, 406, 407, 408, 409, 410, 411, 412, 413, 2025, 206, 207, 2014, 2015, 2016, 2017, 2036, 2037, 2038, 2039, 2040, 2041, 2042, 2043, 609, 610, 611, 612, 704, 705, 706, 2045, 2046, 2047, 901, 912, 913, 510, 2048, 2049, 2050, 2051, 2052, 2053, 809, 810, 811, 812, 813, 910, 911, 2020] G G' ∧ ((0 ≤ k ∧ k ≤ G.1 901 w 0 → G'.1 901 w 0 = 0 ∧ ∃ A0 : aS, sCl A0 ∧ G'.1 912 w 0 = (sLN (G.1 2055 (Γ.2.1 w 0)) k 700 (sNext (G.1 2055 (Γ.2.1 w 0)) k A0)) 1 0 ∧ G'.1 913 w 0 = (sLN (G.1 2055 (Γ.2.1 w 0)) k 700 (sNext (G.1 2055 (Γ.2.1 w 0)) k A0)) 2 0 ∧ x = (if (sLN (G.1 2055 (Γ.2.1 w 0)) k 700 (sNext (G.1 2055 (Γ.2.1 w 0)) k A0)) 1 0 = 0 then sLC (G.1 2055 (Γ.2.1 w 0)) k 700 0 (sNext (G.1 2055 (Γ.2.1 w 0)) k A0) else -1) ∧ ((sLN (G.1 2055 (Γ.2.1 w 0)) k 700 (sNext (G.1 2055 (Γ.2.1 w 0)) k A0)) 1 0 = 0 → G'.2.2 903 w = (G.2.2 401 (Γ.2.1 w 2)) ∧ G'.2.2 401 (Γ.2.1 w 2) = G.2.2 903 w ∧ TV Γ (G.2.2 401 (Γ.2.1 w 2)) (sLN (G.1 2055 (Γ.2.1 w 0)) k 700 (sNext (G.1 2055 (Γ.2.1 w 0)) k A0)) G') ∧ ((sLN (G.1 2055 (Γ.2.1 w 0)) k 700 (sNext (G.1 2055 (Γ.2.1 w 0)) k A0)) 1 0 ≠ 0 → (G'.2.2 903 w = G.2.2 903 w ∧ G'.2.2 401 (Γ.2.1 w 2) = (G.2.2 401 (Γ.2.1 w 2))) ∧ OF Γ (Γ.2.1 w 2) (G.2.2 401 (Γ.2.1 w 2)) G G')) ∧ (¬ (0 ≤ k ∧ k ≤ G.1 901 w 0) → x = -2 ∧ G'.1 901 w 0 = G.1 901 w 0 ∧ G'.1 912 w 0 = G.1 912 w 0 ∧ G'.1 913 w 0 = G.1 913 w 0 ∧ (G'.2.2 903 w = G.2.2 903 w ∧ G'.2.2 401 (Γ.2.1 w 2) = (G.2.2 401 (Γ.2.1 w 2))) ∧ OF Γ (Γ.2.1 w 2) (G.2.2 401 (Γ.2.1 w 2)) G G'))))) args s 0 0 (zA Γ)) 0 [some (zr 9 w), some (zi k), none] [] G
  refine zs_loc 1 rfl (fun ha1 hb1 => ?_)
  refine zs_good (fun hGy => ?_)
  have hby := hGy.1 901 w 0
  rw [r_901] at hby
  refine zs_iload_n (pc := 0) C dX8_text_0 rfl ?_
  refine zs_if_lt (tgt := 12) (pc := 1) C dX8_text_1 (by decide) (fun h1 => ?_) (fun h1 => ?_)
  · skip
    refine zs_bipush (pc := 12) C dX8_text_12 (by decide) (by decide) ?_
    exact zs_iret (pc := 14) C hr hlk dX8_text_14 ⟨by repeat (first | exact zsn_rf | assumption | refine zsn_C (by decide) ?_ | refine zsn_I (by decide) ?_ | refine zsn_J ?_ | refine zsn_P ?_ | refine zsn_m (by assumption) (by decide) ?_ | refine zsn_c (by assumption) (by decide) ?_), ⟨fun q => by omega, fun _ => ⟨rfl, rfl, rfl, rfl, ⟨rfl, rfl⟩, OF_rf⟩⟩⟩
  · skip
    refine zs_iload_n (pc := 4) C dX8_text_4 rfl ?_
    refine zs_aload_n (pc := 5) C dX8_text_5 rfl ?_
    refine zs_geti (r := 901) (pc := 6) C dX8_text_6 w_X8_67 f_9_1 rfl (r_901 0) (fun v6 e6 l6 u6 => ?_)
    refine zs_icmp_le (tgt := 15) (pc := 9) C dX8_text_9 (by decide) (fun h9 => ?_) (fun h9 => ?_)
    · skip
      refine zs_aload_n (pc := 15) C dX8_text_15 rfl ?_
      refine zs_iconst (pc := 16) C dX8_text_16 (by decide) ?_
      refine zs_puti (r := 901) (pc := 17) C dX8_text_17 w_X8_67 f_9_1 rfl (r_901 0) (by omega) ?_
      refine zs_aload_n (pc := 20) C dX8_text_20 rfl ?_
      refine zs_getf (pc := 21) C dX8_text_21 w_X8_18 f_9_2 (by decide) ?_
      refine zs_aload_n (pc := 24) C dX8_text_24 rfl ?_
      refine zs_getf (pc := 25) C dX8_text_25 w_X8_11 f_9_0 (by decide) ?_
      refine zs_iload_n (pc := 28) C dX8_text_28 rfl ?_
      refine zVi2 (pc := 29) C dX8_text_29 v_X8_74 (c_X3_readAllF (t := G.2.2 401 (Γ.2.1 w 2)) hX rfl (by omega) (fun q9 hq9 => by simp only [zuI_1, zuI_2, zuJ_1, zuJ_2, zuJ_3, zuP_1, zuP_2, zuP_3, zuC_1, zuC_2, reduceIte, Nat.reduceEqDiff, false_and, and_false, true_and, and_true, and_self, or_true, true_or, or_false, false_or]; exact hw q9 hq9)) (by decide) (by decide) ⟨Nat.zero_le _, Nat.zero_le _⟩ (Nat.le_of_ble_eq_true rfl) (fun x29 G29 l29 u29 hp29 => ?_)
      obtain ⟨hz29, hq29⟩ := hp29
      try simp only [zuI_1, zuI_2, zuJ_1, zuJ_2, zuJ_3, zuP_1, zuP_2, zuP_3, zuC_1, zuC_2, reduceIte, Nat.reduceEqDiff, false_and, and_false, true_and, and_true, and_self, or_true, true_or, or_false, false_or] at hq29
      have tr29_901 := zsm_at hz29 901 w 0 (by decide)
      try simp only [zuI_1, zuI_2, zuJ_1, zuJ_2, zuJ_3, zuP_1, zuP_2, zuP_3, zuC_1, zuC_2, reduceIte, Nat.reduceEqDiff, false_and, and_false, true_and, and_true, and_self, or_true, true_or, or_false, false_or] at tr29_901
      have tr29_912 := zsm_at hz29 912 w 0 (by decide)
      try simp only [zuI_1, zuI_2, zuJ_1, zuJ_2, zuJ_3, zuP_1, zuP_2, zuP_3, zuC_1, zuC_2, reduceIte, Nat.reduceEqDiff, false_and, and_false, true_and, and_true, and_self, or_true, true_or, or_false, false_or] at tr29_912
      have tr29_913 := zsm_at hz29 913 w 0 (by decide)
      try simp only [zuI_1, zuI_2, zuJ_1, zuJ_2, zuJ_3, zuP_1, zuP_2, zuP_3, zuC_1, zuC_2, reduceIte, Nat.reduceEqDiff, false_and, and_false, true_and, and_true, and_self, or_true, true_or, or_false, false_or] at tr29_913
      simp (disch := decide) only [zuI_nf] at hq29
      obtain ⟨N9, A0, hcl, hx29, hQ29, hO29⟩ := hq29
      have f7 := QC_407 hQ29
      have f8 := QC_408 hQ29
      have rf29 : ∀ r a : Nat, G29.2.2 r a = G.2.2 r a := fun r a => by rw [hz29.2]; rfl
      have hOb : OF Γ (Γ.2.1 w 2) (G.2.2 401 (Γ.2.1 w 2)) G G29 := OF_b (rs := [901]) (by exact zsn_I (by decide) zsn_rf) (fun f h1 h2 => (show ∀ f : Nat, f < 22 → 4 ≤ f → creg f ∉ [901] by decide +kernel) f h1 h2) hO29
      refine zs_istore_n (pc := 32) C dX8_text_32 (by decide) ?_
      dsimp only [zset, zclr, znone]
      refine zs_aload_n (pc := 33) C dX8_text_33 rfl ?_
      refine zs_aload_n (pc := 34) C dX8_text_34 rfl ?_
      refine zs_getf (pc := 35) C dX8_text_35 w_X8_18 f_9_2 (by decide) ?_
      refine zs_geti (r := 407) (pc := 38) C dX8_text_38 w_X8_78 f_4_7 rfl (r_407 0) (fun v38 e38 l38 u38 => ?_)
      refine zs_puti (r := 912) (pc := 41) C dX8_text_41 w_X8_81 f_9_12 rfl (r_912 0) (by omega) ?_
      refine zs_aload_n (pc := 44) C dX8_text_44 rfl ?_
      refine zs_aload_n (pc := 45) C dX8_text_45 rfl ?_
      refine zs_getf (pc := 46) C dX8_text_46 w_X8_18 f_9_2 (by decide) ?_
      refine zs_geti (r := 408) (pc := 49) C dX8_text_49 w_X8_82 f_4_8 rfl (r_408 0) (fun v49 e49 l49 u49 => ?_)
      try simp only [zuI_1, zuI_2, zuJ_1, zuJ_2, zuJ_3, zuP_1, zuP_2, zuP_3, zuC_1, zuC_2, reduceIte, Nat.reduceEqDiff, false_and, and_false, true_and, and_true, and_self, or_true, true_or, or_false, false_or] at e49
      refine zs_puti (r := 913) (pc := 52) C dX8_text_52 w_X8_63 f_9_13 rfl (r_913 0) (by omega) ?_
      refine zs_aload_n (pc := 55) C dX8_text_55 rfl ?_
      refine zs_geti (r := 912) (pc := 56) C dX8_text_56 w_X8_81 f_9_12 rfl (r_912 0) (fun v56 e56 l56 u56 => ?_)
      try simp only [zuI_1, zuI_2, zuJ_1, zuJ_2, zuJ_3, zuP_1, zuP_2, zuP_3, zuC_1, zuC_2, reduceIte, Nat.reduceEqDiff, false_and, and_false, true_and, and_true, and_self, or_true, true_or, or_false, false_or] at e56
      refine zs_if_eq (tgt := 64) (pc := 59) C dX8_text_59 (by decide) (fun h59 => ?_) (fun h59 => ?_)
      · skip
        refine zs_aload_n (pc := 64) C dX8_text_64 rfl ?_
        refine zs_aload_n (pc := 65) C dX8_text_65 rfl ?_
        refine zs_getf (pc := 66) C dX8_text_66 w_X8_18 f_9_2 (by decide) ?_
        refine zs_aload_n (pc := 69) C dX8_text_69 rfl ?_
        refine zs_getd (r := 903) (pc := 70) C dX8_text_70 w_X8_25 f_9_3 (by decide) rfl (fun v70 e70 t70 => ?_)
        try simp only [hz29.2, zuI_1, zuI_2, zuJ_1, zuJ_2, zuJ_3, zuP_1, zuP_2, zuP_3, zuC_1, zuC_2, reduceIte, Nat.reduceEqDiff, false_and, and_false, true_and, and_true, and_self, or_true, true_or, or_false, false_or] at e70
        refine zVa1 (pc := 73) C dX8_text_73 v_X8_83 (c_X3_handOverK hX ) (by decide) (by decide) ⟨Nat.zero_le _, Nat.zero_le _⟩ (Nat.le_of_ble_eq_true rfl) (fun x73 G73 hp73 => ?_)
        obtain ⟨hz73, hq73⟩ := hp73
        try simp only [zuI_1, zuI_2, zuJ_1, zuJ_2, zuJ_3, zuP_1, zuP_2, zuP_3, zuC_1, zuC_2, reduceIte, Nat.reduceEqDiff, false_and, and_false, true_and, and_true, and_self, or_true, true_or, or_false, false_or] at hq73
        have tr73_901 := zsn_at hz73 901 w 0 (by decide)
        try simp only [zuI_1, zuI_2, zuJ_1, zuJ_2, zuJ_3, zuP_1, zuP_2, zuP_3, zuC_1, zuC_2, reduceIte, Nat.reduceEqDiff, false_and, and_false, true_and, and_true, and_self, or_true, true_or, or_false, false_or] at tr73_901
        have tr73_912 := zsn_at hz73 912 w 0 (by decide)
        try simp only [zuI_1, zuI_2, zuJ_1, zuJ_2, zuJ_3, zuP_1, zuP_2, zuP_3, zuC_1, zuC_2, reduceIte, Nat.reduceEqDiff, false_and, and_false, true_and, and_true, and_self, or_true, true_or, or_false, false_or] at tr73_912
        have tr73_913 := zsn_at hz73 913 w 0 (by decide)
        try simp only [zuI_1, zuI_2, zuJ_1, zuJ_2, zuJ_3, zuP_1, zuP_2, zuP_3, zuC_1, zuC_2, reduceIte, Nat.reduceEqDiff, false_and, and_false, true_and, and_true, and_self, or_true, true_or, or_false, false_or] at tr73_913
        obtain ⟨hx73, hG73⟩ := hq73
        have r401 : G73.2.2 401 (Γ.2.1 w 2) = v70 := by rw [hG73, zuP_3, if_pos ⟨rfl, rfl⟩]
        have r70 : v70 = G.2.2 903 w := by first | exact e70 | exact e70.trans (rf29 903 w) | (rw [e70]; exact rf29 903 w)
        have x73e : x73 = (G.2.2 401 (Γ.2.1 w 2)) := by rw [hx73]; exact rf29 401 (Γ.2.1 w 2)
        refine zs_putd (r := 903) (pc := 76) C dX8_text_76 w_X8_25 f_9_3 (by decide) rfl ?_
        refine zs_aload_n (pc := 79) C dX8_text_79 rfl ?_
        refine zs_getf (pc := 80) C dX8_text_80 w_X8_34 f_9_4 (by decide) ?_
        refine zs_aload_n (pc := 83) C dX8_text_83 rfl ?_
        refine zs_getd (r := 903) (pc := 84) C dX8_text_84 w_X8_25 f_9_3 (by decide) rfl (fun v84 e84 t84 => ?_)
        try simp only [zuI_1, zuI_2, zuJ_1, zuJ_2, zuJ_3, zuP_1, zuP_2, zuP_3, zuC_1, zuC_2, reduceIte, Nat.reduceEqDiff, false_and, and_false, true_and, and_true, and_self, or_true, true_or, or_false, false_or] at e84
        refine zVv1 (pc := 87) C dX8_text_87 v_X8_87 (c_X7_beginR hX ) (by decide) (by decide) ⟨Nat.zero_le _, Nat.zero_le _⟩ (Nat.le_of_ble_eq_true rfl) (fun G87 hp87 => ?_)
        obtain ⟨hz87, lo87, hq87⟩ := hp87
        try simp only [zuI_1, zuI_2, zuJ_1, zuJ_2, zuJ_3, zuP_1, zuP_2, zuP_3, zuC_1, zuC_2, reduceIte, Nat.reduceEqDiff, false_and, and_false, true_and, and_true, and_self, or_true, true_or, or_false, false_or] at hq87
        have tr87_901 := zsn_at hz87 901 w 0 (by decide)
        try simp only [zuI_1, zuI_2, zuJ_1, zuJ_2, zuJ_3, zuP_1, zuP_2, zuP_3, zuC_1, zuC_2, reduceIte, Nat.reduceEqDiff, false_and, and_false, true_and, and_true, and_self, or_true, true_or, or_false, false_or] at tr87_901
        have tr87_912 := zsn_at hz87 912 w 0 (by decide)
        try simp only [zuI_1, zuI_2, zuJ_1, zuJ_2, zuJ_3, zuP_1, zuP_2, zuP_3, zuC_1, zuC_2, reduceIte, Nat.reduceEqDiff, false_and, and_false, true_and, and_true, and_self, or_true, true_or, or_false, false_or] at tr87_912
        have tr87_913 := zsn_at hz87 913 w 0 (by decide)
        try simp only [zuI_1, zuI_2, zuJ_1, zuJ_2, zuJ_3, zuP_1, zuP_2, zuP_3, zuC_1, zuC_2, reduceIte, Nat.reduceEqDiff, false_and, and_false, true_and, and_true, and_self, or_true, true_or, or_false, false_or] at tr87_913
        refine zs_aload_n (pc := 90) C dX8_text_90 rfl ?_
        refine zs_iconst (pc := 91) C dX8_text_91 (by decide) ?_
        refine zs_putz (r := 911) (pc := 92) C dX8_text_92 w_X8_90 f_9_11 rfl (r_911 0) (by omega) (by omega) ?_
        refine zs_aload_n (pc := 95) C dX8_text_95 rfl ?_
        refine zs_iconst (pc := 96) C dX8_text_96 (by decide) ?_
        refine zs_puti (r := 910) (pc := 97) C dX8_text_97 w_X8_94 f_9_10 rfl (r_910 0) (by omega) ?_
        refine zs_aload_n (pc := 100) C dX8_text_100 rfl ?_
        refine zs_getf (pc := 101) C dX8_text_101 w_X8_49 f_9_7 (by decide) ?_
        refine zVv0 (pc := 104) C dX8_text_104 v_X8_97 (c_X2_forget hX ) (by decide) (by decide) ⟨Nat.zero_le _, Nat.zero_le _⟩ (Nat.le_of_ble_eq_true rfl) (fun G104 hp104 => ?_)
        obtain ⟨hz104, hq104⟩ := hp104
        try simp only [zuI_1, zuI_2, zuJ_1, zuJ_2, zuJ_3, zuP_1, zuP_2, zuP_3, zuC_1, zuC_2, reduceIte, Nat.reduceEqDiff, false_and, and_false, true_and, and_true, and_self, or_true, true_or, or_false, false_or] at hq104
        have tr104_901 := zsm_at hz104 901 w 0 (by decide)
        try simp only [zuI_1, zuI_2, zuJ_1, zuJ_2, zuJ_3, zuP_1, zuP_2, zuP_3, zuC_1, zuC_2, reduceIte, Nat.reduceEqDiff, false_and, and_false, true_and, and_true, and_self, or_true, true_or, or_false, false_or] at tr104_901
        have tr104_912 := zsm_at hz104 912 w 0 (by decide)
        try simp only [zuI_1, zuI_2, zuJ_1, zuJ_2, zuJ_3, zuP_1, zuP_2, zuP_3, zuC_1, zuC_2, reduceIte, Nat.reduceEqDiff, false_and, and_false, true_and, and_true, and_self, or_true, true_or, or_false, false_or] at tr104_912
        have tr104_913 := zsm_at hz104 913 w 0 (by decide)
        try simp only [zuI_1, zuI_2, zuJ_1, zuJ_2, zuJ_3, zuP_1, zuP_2, zuP_3, zuC_1, zuC_2, reduceIte, Nat.reduceEqDiff, false_and, and_false, true_and, and_true, and_self, or_true, true_or, or_false, false_or] at tr104_913
        have q903 : G104.2.2 903 w = x73 := by
          rw [hz104.2]
          show G87.2.2 903 w = x73
          rw [lo87 903 w (by decide), zuP_3, if_pos ⟨rfl, rfl⟩]
        have q401 : G104.2.2 401 (Γ.2.1 w 2) = v70 := by
          rw [hz104.2]
          show G87.2.2 401 (Γ.2.1 w 2) = v70
          rw [lo87 401 (Γ.2.1 w 2) (by decide), zuP_3, if_neg (fun q => absurd q.1 (by decide))]
          exact r401
        have hTV : TV Γ (G.2.2 401 (Γ.2.1 w 2)) (sLN (G.1 2055 (Γ.2.1 w 0)) k 700 (sNext (G.1 2055 (Γ.2.1 w 0)) k A0)) G104 := TV_n (rs := [912, 913, 510, 2048, 2049, 2050, 2051, 2052, 2053, 809, 810, 811, 812, 813, 910, 911, 2020]) (G := G29) (by repeat (first | exact zsn_rf | assumption | refine zsn_C (by decide) ?_ | refine zsn_I (by decide) ?_ | refine zsn_J ?_ | refine zsn_P ?_ | refine zsn_m (by assumption) (by decide) ?_ | refine zsn_c (by assumption) (by decide) ?_)) (fun f h1 h2 => (show ∀ f : Nat, f < 22 → 4 ≤ f → creg f ∉ [912, 913, 510, 2048, 2049, 2050, 2051, 2052, 2053, 809, 810, 811, 812, 813, 910, 911, 2020] by decide +kernel) f h1 h2) (TV_QC hQ29)
        refine zs_iload_n (pc := 107) C dX8_text_107 rfl ?_
        exact zs_iret (pc := 108) C hr hlk dX8_text_108 ⟨by repeat (first | exact zsn_rf | assumption | refine zsn_C (by decide) ?_ | refine zsn_I (by decide) ?_ | refine zsn_J ?_ | refine zsn_P ?_ | refine zsn_m (by assumption) (by decide) ?_ | refine zsn_c (by assumption) (by decide) ?_), ⟨fun _ => ⟨by first | omega | (simp only [zuI_1, zuI_2, zuJ_1, zuJ_2, zuJ_3, zuP_1, zuP_2, zuP_3, zuC_1, zuC_2, reduceIte, Nat.reduceEqDiff, false_and, and_false, true_and, and_true, and_self, or_true, true_or, or_false, false_or] <;> omega), A0, hcl, by first | omega | (simp only [zuI_1, zuI_2, zuJ_1, zuJ_2, zuJ_3, zuP_1, zuP_2, zuP_3, zuC_1, zuC_2, reduceIte, Nat.reduceEqDiff, false_and, and_false, true_and, and_true, and_self, or_true, true_or, or_false, false_or] <;> omega), by first | omega | (simp only [zuI_1, zuI_2, zuJ_1, zuJ_2, zuJ_3, zuP_1, zuP_2, zuP_3, zuC_1, zuC_2, reduceIte, Nat.reduceEqDiff, false_and, and_false, true_and, and_true, and_self, or_true, true_or, or_false, false_or] <;> omega), by rw [if_pos (by omega)]; exact hx29, fun _ => ⟨q903.trans x73e, q401.trans r70, hTV⟩, fun q => absurd (show (sLN (G.1 2055 (Γ.2.1 w 0)) k 700 (sNext (G.1 2055 (Γ.2.1 w 0)) k A0)) 1 0 = 0 by omega) q⟩, fun q => by omega⟩⟩
      · skip
        refine zs_iconst (pc := 62) C dX8_text_62 (by decide) ?_
        exact zs_iret (pc := 63) C hr hlk dX8_text_63 ⟨by repeat (first | exact zsn_rf | assumption | refine zsn_C (by decide) ?_ | refine zsn_I (by decide) ?_ | refine zsn_J ?_ | refine zsn_P ?_ | refine zsn_m (by assumption) (by decide) ?_ | refine zsn_c (by assumption) (by decide) ?_), ⟨fun _ => ⟨by first | omega | (simp only [zuI_1, zuI_2, zuJ_1, zuJ_2, zuJ_3, zuP_1, zuP_2, zuP_3, zuC_1, zuC_2, reduceIte, Nat.reduceEqDiff, false_and, and_false, true_and, and_true, and_self, or_true, true_or, or_false, false_or] <;> omega), A0, hcl, by first | omega | (simp only [zuI_1, zuI_2, zuJ_1, zuJ_2, zuJ_3, zuP_1, zuP_2, zuP_3, zuC_1, zuC_2, reduceIte, Nat.reduceEqDiff, false_and, and_false, true_and, and_true, and_self, or_true, true_or, or_false, false_or] <;> omega), by first | omega | (simp only [zuI_1, zuI_2, zuJ_1, zuJ_2, zuJ_3, zuP_1, zuP_2, zuP_3, zuC_1, zuC_2, reduceIte, Nat.reduceEqDiff, false_and, and_false, true_and, and_true, and_self, or_true, true_or, or_false, false_or] <;> omega), by rw [if_neg (by omega)], fun q => absurd q (by omega), fun _ => ⟨⟨rf29 903 w, rf29 401 (Γ.2.1 w 2)⟩, OF_n (rs := [912, 913]) (G1 := G29) (by repeat (first | exact zsn_rf | assumption | refine zsn_C (by decide) ?_ | refine zsn_I (by decide) ?_ | refine zsn_J ?_ | refine zsn_P ?_ | refine zsn_m (by assumption) (by decide) ?_ | refine zsn_c (by assumption) (by decide) ?_)) (fun f h1 h2 => (show ∀ f : Nat, f < 22 → 4 ≤ f → creg f ∉ [912, 913] by decide +kernel) f h1 h2) hOb⟩⟩, fun q => by omega⟩⟩
    · skip
      refine zs_bipush (pc := 12) C dX8_text_12 (by decide) (by decide) ?_
      exact zs_iret (pc := 14) C hr hlk dX8_text_14 ⟨by repeat (first | exact zsn_rf | assumption | refine zsn_C (by decide) ?_ | refine zsn_I (by decide) ?_ | refine zsn_J ?_ | refine zsn_P ?_ | refine zsn_m (by assumption) (by decide) ?_ | refine zsn_c (by assumption) (by decide) ?_), ⟨fun q => by omega, fun _ => ⟨rfl, rfl, rfl, rfl, ⟨rfl, rfl⟩, OF_rf⟩⟩⟩

set_option maxHeartbeats 4000000 in
set_option maxRecDepth 100000 in
theorem c_X5_findK {l : Launch} {Γ : zΓ} {G : zH} {w : Nat} {kd k : Int} (hX : zXs Γ) (hk : 0 ≤ kd ∧ kd ≤ 3) : zMet l Γ yX5_find cX5_find 4 (some .int) 0 [zr 6 w, zi kd, zi k] G (zpi (fun x G' => G' = G ∧ (x = fndn (G.1 2036 (Γ.2.1 w 1)) (kd * 5) k (G.1 2037 (Γ.2.1 w 2) kd.toNat).toNat 0))) := by
  refine zMet_of RX5 hX (by decide) rfl (Nat.le_of_ble_eq_true rfl) ?_
  intro p e s m args below meth c C hr hlk
  show Z p l e (zrm 0) s m args below meth c Γ 4 0 0 (MQ below (zQc Γ (zpi (fun x G' => G' = G ∧ (x = fndn (G.1 2036 (Γ.2.1 w 1)) (kd * 5) k (G.1 2037 (Γ.2.1 w 2) kd.toNat).toNat 0)))) args s 0 0 (zA Γ)) 0 [some (zr 6 w), some (zi kd), some (zi k), none] [] G
  refine zs_loc 1 rfl (fun ha1 hb1 => ?_)
  refine zs_loc 2 rfl (fun ha2 hb2 => ?_)
  refine zs_iconst (pc := 0) C dX5_find_0 (by decide) ?_
  refine zs_istore_n (pc := 1) C dX5_find_1 (by decide) ?_
  dsimp only [zset, zclr, znone]
  have L2 : ∀ (nn : Nat) (x3 : Int), (0 ≤ x3 ∧ x3 ≤ 5) → (fndn (G.1 2036 (Γ.2.1 w 1)) (kd * 5) k (G.1 2037 (Γ.2.1 w 2) kd.toNat - x3).toNat x3 = fndn (G.1 2036 (Γ.2.1 w 1)) (kd * 5) k (G.1 2037 (Γ.2.1 w 2) kd.toNat).toNat 0) → (5 - x3).toNat < nn → Z p l e (zrm 0) s m args below meth c Γ 4 0 0 (MQ below (zQc Γ (zpi (fun x G' => G' = G ∧ (x = fndn (G.1 2036 (Γ.2.1 w 1)) (kd * 5) k (G.1 2037 (Γ.2.1 w 2) kd.toNat).toNat 0)))) args s 0 0 (zA Γ)) 2 [some (zr 6 w), some (zi kd), some (zi k), some (zi x3)] [] G := by
    intro nn
    induction nn with
    | zero => intro x3 h2_0 h2_1 hm; exact absurd hm (Nat.not_lt_zero _)
    | succ nn ih2 =>
      intro x3 h2_0 h2_1 hm2
      refine zs_iload_n (pc := 2) C dX5_find_2 rfl ?_
      refine zs_aload_n (pc := 3) C dX5_find_3 rfl ?_
      refine zs_getf (pc := 4) C dX5_find_4 w_X5_22 f_6_2 (by decide) ?_
      refine zs_iload_n (pc := 7) C dX5_find_7 rfl ?_
      refine zs_iald (r := 2037) (pc := 8) C dX5_find_8 a_37 (by decide) (by omega) rfl rfl (fun v8 e8 l8 u8 => ?_)
      have hs := rs_2037 kd.toNat
      refine zs_icmp_ge (tgt := 34) (pc := 9) C dX5_find_9 (by decide) (fun h9 => ?_) (fun h9 => ?_)
      · skip
        refine zs_iconst (pc := 34) C dX5_find_34 (by decide) ?_
        exact zs_iret (pc := 35) C hr hlk dX5_find_35 ⟨rfl, by rw [← h2_1, fnd_e (by omega)]⟩
      · skip
        refine zs_aload_n (pc := 12) C dX5_find_12 rfl ?_
        refine zs_getf (pc := 13) C dX5_find_13 w_X5_18 f_6_1 (by decide) ?_
        refine zs_iload_n (pc := 16) C dX5_find_16 rfl ?_
        refine zs_iconst (pc := 17) C dX5_find_17 (by decide) ?_
        first | refine zs_imul (pc := 18) C dX5_find_18 (by omega) ?_ | refine zs_imulF (pc := 18) C dX5_find_18 (fun z18 hz181 hz182 => ?_)
        refine zs_iload_n (pc := 19) C dX5_find_19 rfl ?_
        first | refine zs_iadd (pc := 20) C dX5_find_20 (by omega) ?_ | refine zs_iaddF (pc := 20) C dX5_find_20 (fun z20 hz201 hz202 => ?_)
        refine zs_iald (r := 2036) (pc := 21) C dX5_find_21 a_36 (by decide) (by omega) rfl (r_2036 _) (fun v21 e21 l21 u21 => ?_)
        refine zs_iload_n (pc := 22) C dX5_find_22 rfl ?_
        refine zs_icmp_ne (tgt := 28) (pc := 23) C dX5_find_23 (by decide) (fun h23 => ?_) (fun h23 => ?_)
        · skip
          first | refine zs_iinc (pc := 28) C dX5_find_28 rfl (by decide) (by omega) ?_ | refine zs_iincF (pc := 28) C dX5_find_28 rfl (by decide) (fun z28 hz281 hz282 => ?_)
          dsimp only [zset, zclr, znone]
          refine zs_goto (tgt := 2) (pc := 31) C dX5_find_31 (by decide) ?_
          exact zs_wk (ih2 _ (by omega) (by have q := h2_1; rw [fnd_s (by omega), if_neg (by omega)] at q; exact q) (by first | omega | (simp only [zuI_1, zuI_2, zuJ_1, zuJ_2, zuJ_3, zuP_1, zuP_2, zuP_3, zuC_1, zuC_2, reduceIte, Nat.reduceEqDiff, false_and, and_false, true_and, and_true, and_self, or_true, true_or, or_false, false_or]; omega))) (zwk_s rfl (zwk_s rfl (zwk_s rfl (zwk_s rfl zwk_0))))
        · skip
          refine zs_iload_n (pc := 26) C dX5_find_26 rfl ?_
          exact zs_iret (pc := 27) C hr hlk dX5_find_27 ⟨rfl, by rw [← h2_1, fnd_s (by omega), if_pos (by omega)]⟩
  exact zs_wk (L2 _ _ (by omega) (by rw [Int.sub_zero]) (Nat.lt_succ_self _)) (zwk_s rfl (zwk_s rfl (zwk_s rfl (zwk_s rfl zwk_0))))

set_option maxHeartbeats 4000000 in
set_option maxRecDepth 100000 in
theorem c_X8_namedK {l : Launch} {Γ : zΓ} {G : zH} {w : Nat} {a b : Int} (hX : zXs Γ)  : zMet l Γ yX8_named cX8_named 3 (some .int) 1 [zr 9 w, zi a, zi b] G (zpi (fun x G' => G' = G ∧ ((0 ≤ a ∧ a ≤ 3 → x = fndn (G.1 2036 (Γ.2.1 (G.2.2 903 w) 1)) (a * 5) b (G.1 2037 (Γ.2.1 (G.2.2 903 w) 2) a.toNat).toNat 0) ∧ (¬ (0 ≤ a ∧ a ≤ 3) → x = -1)))) := by
  refine zMet_of RX8 hX (by decide) rfl (Nat.le_of_ble_eq_true rfl) ?_
  intro p e s m args below meth c C hr hlk
  show Z p l e (zrm 1) s m args below meth c Γ 3 0 0 (MQ below (zQc Γ (zpi (fun x G' => G' = G ∧ ((0 ≤ a ∧ a ≤ 3 → x = fndn (G.1 2036 (Γ.2.1 (G.2.2 903 w) 1)) (a * 5) b (G.1 2037 (Γ.2.1 (G.2.2 903 w) 2) a.toNat).toNat 0) ∧ (¬ (0 ≤ a ∧ a ≤ 3) → x = -1))))) args s 0 0 (zA Γ)) 0 [some (zr 9 w), some (zi a), some (zi b)] [] G
  refine zs_loc 1 rfl (fun ha1 hb1 => ?_)
  refine zs_loc 2 rfl (fun ha2 hb2 => ?_)
  refine zs_iload_n (pc := 0) C dX8_named_0 rfl ?_
  refine zs_if_lt (tgt := 9) (pc := 1) C dX8_named_1 (by decide) (fun h1 => ?_) (fun h1 => ?_)
  · skip
    refine zs_iconst (pc := 9) C dX8_named_9 (by decide) ?_
    refine zs_goto (tgt := 22) (pc := 10) C dX8_named_10 (by decide) ?_
    exact zs_iret (pc := 22) C hr hlk dX8_named_22 ⟨rfl, (by first | exact ⟨fun q => by omega, fun _ => rfl⟩ | exact ⟨fun _ => hq19, fun q => absurd ⟨by omega, by omega⟩ q⟩)⟩
  · skip
    refine zs_iload_n (pc := 4) C dX8_named_4 rfl ?_
    refine zs_iconst (pc := 5) C dX8_named_5 (by decide) ?_
    refine zs_icmp_lt (tgt := 13) (pc := 6) C dX8_named_6 (by decide) (fun h6 => ?_) (fun h6 => ?_)
    · skip
      refine zs_aload_n (pc := 13) C dX8_named_13 rfl ?_
      refine zs_getd (r := 903) (pc := 14) C dX8_named_14 w_X8_25 f_9_3 (by decide) rfl (fun v14 e14 t14 => ?_)
      subst e14
      refine zs_iload_n (pc := 17) C dX8_named_17 rfl ?_
      refine zs_iload_n (pc := 18) C dX8_named_18 rfl ?_
      refine zVip2 (pc := 19) C dX8_named_19 v_X8_100 (c_X5_findK hX (by omega)) (by decide) (by decide) ⟨Nat.zero_le _, Nat.zero_le _⟩ (Nat.le_of_ble_eq_true rfl) (fun x19 l19 u19 hp19 => ?_)
      have hq19 := hp19
      exact zs_iret (pc := 22) C hr hlk dX8_named_22 ⟨rfl, (by first | exact ⟨fun q => by omega, fun _ => rfl⟩ | exact ⟨fun _ => hq19, fun q => absurd ⟨by omega, by omega⟩ q⟩)⟩
    · skip
      refine zs_iconst (pc := 9) C dX8_named_9 (by decide) ?_
      refine zs_goto (tgt := 22) (pc := 10) C dX8_named_10 (by decide) ?_
      exact zs_iret (pc := 22) C hr hlk dX8_named_22 ⟨rfl, (by first | exact ⟨fun q => by omega, fun _ => rfl⟩ | exact ⟨fun _ => hq19, fun q => absurd ⟨by omega, by omega⟩ q⟩)⟩

set_option maxHeartbeats 4000000 in
set_option maxRecDepth 100000 in
theorem c_X9_namedK {l : Launch} {Γ : zΓ} {G : zH} {w : Nat} {a b : Int} (hX : zXs Γ)  : zMet l Γ yX9_named cX9_named 3 (some .int) 1 [zr 10 w, zi a, zi b] G (zpi (fun x G' => zsm [1002] G G' ∧ ((a = 0 → x = fndn (G.1 2061 (Γ.2.1 w 24)) 0 b (G.1 1012 w 0).toNat 0) ∧ (a = 1 → x = fndn (G.1 2063 (Γ.2.1 w 26)) 0 b (G.1 1013 w 0).toNat 0) ∧ (a = 2 → x = fndn (G.1 2066 (Γ.2.1 w 29)) 0 b (G.1 1014 w 0).toNat 0) ∧ (a = 3 → x = fndn (G.1 2070 (Γ.2.1 w 33)) 0 b (G.1 1015 w 0).toNat 0) ∧ (¬ (0 ≤ a ∧ a ≤ 3) → x = -1)))) := by
  refine zMet_of RX9 hX (by decide) rfl (Nat.le_of_ble_eq_true rfl) ?_
  intro p e s m args below meth c C hr hlk
  show Z p l e (zrm 1) s m args below meth c Γ 3 0 0 (MQ below (zQc Γ (zpi (fun x G' => zsm [1002] G G' ∧ ((a = 0 → x = fndn (G.1 2061 (Γ.2.1 w 24)) 0 b (G.1 1012 w 0).toNat 0) ∧ (a = 1 → x = fndn (G.1 2063 (Γ.2.1 w 26)) 0 b (G.1 1013 w 0).toNat 0) ∧ (a = 2 → x = fndn (G.1 2066 (Γ.2.1 w 29)) 0 b (G.1 1014 w 0).toNat 0) ∧ (a = 3 → x = fndn (G.1 2070 (Γ.2.1 w 33)) 0 b (G.1 1015 w 0).toNat 0) ∧ (¬ (0 ≤ a ∧ a ≤ 3) → x = -1))))) args s 0 0 (zA Γ)) 0 [some (zr 10 w), some (zi a), some (zi b)] [] G
  refine zs_loc 1 rfl (fun ha1 hb1 => ?_)
  refine zs_loc 2 rfl (fun ha2 hb2 => ?_)
  refine zs_aload_n (pc := 0) C dX9_named_0 rfl ?_
  refine zs_iconst (pc := 1) C dX9_named_1 (by decide) ?_
  refine zs_puti (r := 1002) (pc := 2) C dX9_named_2 w_X9_178 f_10_2 rfl (r_1002 0) (by omega) ?_
  refine zs_iload_n (pc := 5) C dX9_named_5 rfl ?_
  refine zs_name (fun y6 ey6 => ?_)
  rcases (show y6 = 0 ∨ y6 = 1 ∨ y6 = 2 ∨ y6 = 3 ∨ (y6 < 0 ∨ 3 < y6) by omega) with h6 | h6 | h6 | h6 | h6
  · skip
    refine zs_tabIn (pc := 6) (tgt := 36) C 0 dX9_named_6 h6 (by decide) rfl (by decide) ?_
    refine zs_aload_n (pc := 36) C dX9_named_36 rfl ?_
    refine zs_getf (pc := 37) C dX9_named_37 w_X9_27 f_10_24 (by decide) ?_
    refine zs_iconst (pc := 40) C dX9_named_40 (by decide) ?_
    refine zs_aload_n (pc := 41) C dX9_named_41 rfl ?_
    refine zs_geti (r := 1012) (pc := 42) C dX9_named_42 w_X9_258 f_10_12 rfl (r_1012 0) (fun v42 e42 l42 u42 => ?_)
    try simp only [zuI_1, zuI_2, zuJ_1, zuJ_2, zuJ_3, zuP_1, zuP_2, zuP_3, zuC_1, zuC_2, reduceIte, Nat.reduceEqDiff, false_and, and_false, true_and, and_true, and_self, or_true, true_or, or_false, false_or] at e42
    refine zs_iload_n (pc := 45) C dX9_named_45 rfl ?_
    refine zSip4 (pc := 46) C dX9_named_46 s_X9_280 (c_X9_findG hX a_61 (by decide) (by decide) (by omega)) (by decide) ⟨Nat.zero_le _, Nat.zero_le _⟩ (Nat.le_of_ble_eq_true rfl) (fun x46 l46 u46 hp46 => ?_)
    have hq46 := hp46
    try simp only [zuI_1, zuI_2, zuJ_1, zuJ_2, zuJ_3, zuP_1, zuP_2, zuP_3, zuC_1, zuC_2, reduceIte, Nat.reduceEqDiff, false_and, and_false, true_and, and_true, and_self, or_true, true_or, or_false, false_or] at hq46
    have hn46 := hq46.1
    simp (disch := decide) only [zuI_nf] at hn46
    exact zs_iret (pc := 49) C hr hlk dX9_named_49 ⟨by repeat (first | exact zsm_rf | assumption | refine zsm_C (by decide) ?_ | refine zsm_I (by decide) ?_ | refine zsm_J ?_ | refine zsm_c (by assumption) (by decide) ?_), (by first | (refine ⟨fun q => ?_, fun q => ?_, fun q => ?_, fun q => ?_, fun q => ?_⟩ <;> first | (exfalso; omega) | rfl) | (refine ⟨fun q => ?_, fun q => ?_, fun q => ?_, fun q => ?_, fun q => ?_⟩ <;> first | (exfalso; omega) | (first | (rw [hn46, e42] <;> rfl) | (rw [hn60, e56] <;> rfl) | (rw [hn74, e70] <;> rfl) | (rw [hn88, e84] <;> rfl))))⟩
  · skip
    refine zs_tabIn (pc := 6) (tgt := 50) C 1 dX9_named_6 h6 (by decide) rfl (by decide) ?_
    refine zs_aload_n (pc := 50) C dX9_named_50 rfl ?_
    refine zs_getf (pc := 51) C dX9_named_51 w_X9_33 f_10_26 (by decide) ?_
    refine zs_iconst (pc := 54) C dX9_named_54 (by decide) ?_
    refine zs_aload_n (pc := 55) C dX9_named_55 rfl ?_
    refine zs_geti (r := 1013) (pc := 56) C dX9_named_56 w_X9_261 f_10_13 rfl (r_1013 0) (fun v56 e56 l56 u56 => ?_)
    try simp only [zuI_1, zuI_2, zuJ_1, zuJ_2, zuJ_3, zuP_1, zuP_2, zuP_3, zuC_1, zuC_2, reduceIte, Nat.reduceEqDiff, false_and, and_false, true_and, and_true, and_self, or_true, true_or, or_false, false_or] at e56
    refine zs_iload_n (pc := 59) C dX9_named_59 rfl ?_
    refine zSip4 (pc := 60) C dX9_named_60 s_X9_280 (c_X9_findG hX a_63 (by decide) (by decide) (by omega)) (by decide) ⟨Nat.zero_le _, Nat.zero_le _⟩ (Nat.le_of_ble_eq_true rfl) (fun x60 l60 u60 hp60 => ?_)
    have hq60 := hp60
    try simp only [zuI_1, zuI_2, zuJ_1, zuJ_2, zuJ_3, zuP_1, zuP_2, zuP_3, zuC_1, zuC_2, reduceIte, Nat.reduceEqDiff, false_and, and_false, true_and, and_true, and_self, or_true, true_or, or_false, false_or] at hq60
    have hn60 := hq60.1
    simp (disch := decide) only [zuI_nf] at hn60
    exact zs_iret (pc := 63) C hr hlk dX9_named_63 ⟨by repeat (first | exact zsm_rf | assumption | refine zsm_C (by decide) ?_ | refine zsm_I (by decide) ?_ | refine zsm_J ?_ | refine zsm_c (by assumption) (by decide) ?_), (by first | (refine ⟨fun q => ?_, fun q => ?_, fun q => ?_, fun q => ?_, fun q => ?_⟩ <;> first | (exfalso; omega) | rfl) | (refine ⟨fun q => ?_, fun q => ?_, fun q => ?_, fun q => ?_, fun q => ?_⟩ <;> first | (exfalso; omega) | (first | (rw [hn46, e42] <;> rfl) | (rw [hn60, e56] <;> rfl) | (rw [hn74, e70] <;> rfl) | (rw [hn88, e84] <;> rfl))))⟩
  · skip
    refine zs_tabIn (pc := 6) (tgt := 64) C 2 dX9_named_6 h6 (by decide) rfl (by decide) ?_
    refine zs_aload_n (pc := 64) C dX9_named_64 rfl ?_
    refine zs_getf (pc := 65) C dX9_named_65 w_X9_42 f_10_29 (by decide) ?_
    refine zs_iconst (pc := 68) C dX9_named_68 (by decide) ?_
    refine zs_aload_n (pc := 69) C dX9_named_69 rfl ?_
    refine zs_geti (r := 1014) (pc := 70) C dX9_named_70 w_X9_264 f_10_14 rfl (r_1014 0) (fun v70 e70 l70 u70 => ?_)
    try simp only [zuI_1, zuI_2, zuJ_1, zuJ_2, zuJ_3, zuP_1, zuP_2, zuP_3, zuC_1, zuC_2, reduceIte, Nat.reduceEqDiff, false_and, and_false, true_and, and_true, and_self, or_true, true_or, or_false, false_or] at e70
    refine zs_iload_n (pc := 73) C dX9_named_73 rfl ?_
    refine zSip4 (pc := 74) C dX9_named_74 s_X9_280 (c_X9_findG hX a_66 (by decide) (by decide) (by omega)) (by decide) ⟨Nat.zero_le _, Nat.zero_le _⟩ (Nat.le_of_ble_eq_true rfl) (fun x74 l74 u74 hp74 => ?_)
    have hq74 := hp74
    try simp only [zuI_1, zuI_2, zuJ_1, zuJ_2, zuJ_3, zuP_1, zuP_2, zuP_3, zuC_1, zuC_2, reduceIte, Nat.reduceEqDiff, false_and, and_false, true_and, and_true, and_self, or_true, true_or, or_false, false_or] at hq74
    have hn74 := hq74.1
    simp (disch := decide) only [zuI_nf] at hn74
    exact zs_iret (pc := 77) C hr hlk dX9_named_77 ⟨by repeat (first | exact zsm_rf | assumption | refine zsm_C (by decide) ?_ | refine zsm_I (by decide) ?_ | refine zsm_J ?_ | refine zsm_c (by assumption) (by decide) ?_), (by first | (refine ⟨fun q => ?_, fun q => ?_, fun q => ?_, fun q => ?_, fun q => ?_⟩ <;> first | (exfalso; omega) | rfl) | (refine ⟨fun q => ?_, fun q => ?_, fun q => ?_, fun q => ?_, fun q => ?_⟩ <;> first | (exfalso; omega) | (first | (rw [hn46, e42] <;> rfl) | (rw [hn60, e56] <;> rfl) | (rw [hn74, e70] <;> rfl) | (rw [hn88, e84] <;> rfl))))⟩
  · skip
    refine zs_tabIn (pc := 6) (tgt := 78) C 3 dX9_named_6 h6 (by decide) rfl (by decide) ?_
    refine zs_aload_n (pc := 78) C dX9_named_78 rfl ?_
    refine zs_getf (pc := 79) C dX9_named_79 w_X9_54 f_10_33 (by decide) ?_
    refine zs_iconst (pc := 82) C dX9_named_82 (by decide) ?_
    refine zs_aload_n (pc := 83) C dX9_named_83 rfl ?_
    refine zs_geti (r := 1015) (pc := 84) C dX9_named_84 w_X9_267 f_10_15 rfl (r_1015 0) (fun v84 e84 l84 u84 => ?_)
    try simp only [zuI_1, zuI_2, zuJ_1, zuJ_2, zuJ_3, zuP_1, zuP_2, zuP_3, zuC_1, zuC_2, reduceIte, Nat.reduceEqDiff, false_and, and_false, true_and, and_true, and_self, or_true, true_or, or_false, false_or] at e84
    refine zs_iload_n (pc := 87) C dX9_named_87 rfl ?_
    refine zSip4 (pc := 88) C dX9_named_88 s_X9_280 (c_X9_findG hX a_70 (by decide) (by decide) (by omega)) (by decide) ⟨Nat.zero_le _, Nat.zero_le _⟩ (Nat.le_of_ble_eq_true rfl) (fun x88 l88 u88 hp88 => ?_)
    have hq88 := hp88
    try simp only [zuI_1, zuI_2, zuJ_1, zuJ_2, zuJ_3, zuP_1, zuP_2, zuP_3, zuC_1, zuC_2, reduceIte, Nat.reduceEqDiff, false_and, and_false, true_and, and_true, and_self, or_true, true_or, or_false, false_or] at hq88
    have hn88 := hq88.1
    simp (disch := decide) only [zuI_nf] at hn88
    exact zs_iret (pc := 91) C hr hlk dX9_named_91 ⟨by repeat (first | exact zsm_rf | assumption | refine zsm_C (by decide) ?_ | refine zsm_I (by decide) ?_ | refine zsm_J ?_ | refine zsm_c (by assumption) (by decide) ?_), (by first | (refine ⟨fun q => ?_, fun q => ?_, fun q => ?_, fun q => ?_, fun q => ?_⟩ <;> first | (exfalso; omega) | rfl) | (refine ⟨fun q => ?_, fun q => ?_, fun q => ?_, fun q => ?_, fun q => ?_⟩ <;> first | (exfalso; omega) | (first | (rw [hn46, e42] <;> rfl) | (rw [hn60, e56] <;> rfl) | (rw [hn74, e70] <;> rfl) | (rw [hn88, e84] <;> rfl))))⟩
  · skip
    refine zs_tabOut (tgt := 92) (pc := 6) C dX9_named_6 h6 (by decide) ?_
    refine zs_iconst (pc := 92) C dX9_named_92 (by decide) ?_
    exact zs_iret (pc := 93) C hr hlk dX9_named_93 ⟨by repeat (first | exact zsm_rf | assumption | refine zsm_C (by decide) ?_ | refine zsm_I (by decide) ?_ | refine zsm_J ?_ | refine zsm_c (by assumption) (by decide) ?_), (by first | (refine ⟨fun q => ?_, fun q => ?_, fun q => ?_, fun q => ?_, fun q => ?_⟩ <;> first | (exfalso; omega) | rfl) | (refine ⟨fun q => ?_, fun q => ?_, fun q => ?_, fun q => ?_, fun q => ?_⟩ <;> first | (exfalso; omega) | (first | (rw [hn46, e42] <;> rfl) | (rw [hn60, e56] <;> rfl) | (rw [hn74, e70] <;> rfl) | (rw [hn88, e84] <;> rfl))))⟩
