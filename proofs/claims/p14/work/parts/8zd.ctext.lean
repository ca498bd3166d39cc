theorem QQ_bg2 {Γ : zΓ} {w b : Nat} {A : aS} {G G' : zH} {rs : List Nat} (hs : zsn rs G G') (hr : (∀ f : Nat, f < 22 → 4 ≤ f → creg f ∉ rs) ∧ 2054 ∉ rs) (hT : TV Γ b A G) (h8 : G'.2.2 800 w = b) (ho : OW Γ w G G') (hc : bgG Γ w b G G') : ∃ U : aS, QQ Γ w b A U G' ∧ wBeg A U ∧ ∀ j : Nat, U 17 j = G.1 2054 (Γ.2.1 w 8) j := by
  obtain ⟨W0, hW0⟩ := QW_is (Γ := Γ) (w := w) (G := G)
  obtain ⟨U, a, b9, c, d⟩ := QQ_bg hs hr hW0 hT h8 ho hc
  exact ⟨U, a, b9, fun j => (d j).trans (hW0.2 17 j (by decide)).symm⟩

set_option maxHeartbeats 4000000 in
set_option maxRecDepth 100000 in
theorem c_X8_textW {l : Launch} {Γ : zΓ} {G : zH} {w : Nat} {k : Int} (hX : zXs Γ) (hw : ∀ q9 : Nat, q9 < 24 → G.1 2044 (Γ.2.1 (Γ.2.1 (Γ.2.1 w 2) 0) 0) q9 = wl.getD q9 0) : zMet l Γ yX8_text cX8_text 3 (some .int) 7 [zr 9 w, zi k] G (zpi (fun x G' => zsn [402, 403, 404, 405, 406, 407, 408, 409, 410, 411, 412, 413, 2025, 206, 207, 2014, 2015, 2016, 2017, 2036, 2037, 2038, 2039, 2040, 2041, 2042, 2043, 609, 610, 611, 612, 704, 705, 706, 2045, 2046, 2047, 901, 912, 913, 510, 2048, 2049, 2050, 2051, 2052, 2053, 809, 810, 811, 812, 813, 910, 911, 2020] G G' ∧ ((0 ≤ k ∧ k ≤ G.1 901 w 0 → G'.1 901 w 0 = 0 ∧ ∃ A0 : aS, sCl A0 ∧ G'.1 912 w 0 = (sLN (G.1 2055 (Γ.2.1 w 0)) k 700 (sNext (G.1 2055 (Γ.2.1 w 0)) k A0)) 1 0 ∧ G'.1 913 w 0 = (sLN (G.1 2055 (Γ.2.1 w 0)) k 700 (sNext (G.1 2055 (Γ.2.1 w 0)) k A0)) 2 0 ∧ x = (if (sLN (G.1 2055 (Γ.2.1 w 0)) k 700 (sNext (G.1 2055 (Γ.2.1 w 0)) k A0)) 1 0 = 0 then sLC (G.1 2055 (Γ.2.1 w 0)) k 700 0 (sNext (G.1 2055 (Γ.2.1 w 0)) k A0) else -1) ∧ ((sLN (G.1 2055 (Γ.2.1 w 0)) k 700 (sNext (G.1 2055 (Γ.2.1 w 0)) k A0)) 1 0 = 0 → G'.2.2 903 w = (G.2.2 401 (Γ.2.1 w 2)) ∧ G'.2.2 401 (Γ.2.1 w 2) = G.2.2 903 w ∧ TV Γ (G.2.2 401 (Γ.2.1 w 2)) (sLN (G.1 2055 (Γ.2.1 w 0)) k 700 (sNext (G.1 2055 (Γ.2.1 w 0)) k A0)) G' ∧ (∃ U : aS, QQ Γ (Γ.2.1 w 4) (G.2.2 401 (Γ.2.1 w 2)) (sLN (G.1 2055 (Γ.2.1 w 0)) k 700 (sNext (G.1 2055 (Γ.2.1 w 0)) k A0)) U G' ∧ wBeg (sLN (G.1 2055 (Γ.2.1 w 0)) k 700 (sNext (G.1 2055 (Γ.2.1 w 0)) k A0)) U ∧ ∀ j : Nat, U 17 j = G.1 2054 (Γ.2.1 (Γ.2.1 w 4) 8) j) ∧ G'.1 910 w 0 = 0 ∧ G'.1 911 w 0 = 0) ∧ ((sLN (G.1 2055 (Γ.2.1 w 0)) k 700 (sNext (G.1 2055 (Γ.2.1 w 0)) k A0)) 1 0 ≠ 0 → (G'.2.2 903 w = G.2.2 903 w ∧ G'.2.2 401 (Γ.2.1 w 2) = (G.2.2 401 (Γ.2.1 w 2))) ∧ OF Γ (Γ.2.1 w 2) (G.2.2 401 (Γ.2.1 w 2)) G G' ∧ ((∀ r ∈ [510, 2026, 2027, 2028, 2029, 2030, 2031, 2032, 2033, 2034, 2035, 2048, 2049, 2050, 2051, 2052, 2053, 2054, 809, 810, 811, 812, 813, 910, 911, 2056], G'.1 r = G.1 r) ∧ ∀ a9 : Nat, G'.2.2 800 a9 = G.2.2 800 a9))) ∧ (¬ (0 ≤ k ∧ k ≤ G.1 901 w 0) → x = -2 ∧ G'.1 901 w 0 = G.1 901 w 0 ∧ G'.1 912 w 0 = G.1 912 w 0 ∧ G'.1 913 w 0 = G.1 913 w 0 ∧ (G'.2.2 903 w = G.2.2 903 w ∧ G'.2.2 401 (Γ.2.1 w 2) = (G.2.2 401 (Γ.2.1 w 2))) ∧ OF Γ (Γ.2.1 w 2) (G.2.2 401 (Γ.2.1 w 2)) G G' ∧ ((∀ r ∈ [510, 2026, 2027, 2028, 2029, 2030, 2031, 2032, 2033, 2034, 2035, 2048, 2049, 2050, 2051, 2052, 2053, 2054, 809, 810, 811, 812, 813, 910, 911, 2056], G'.1 r = G.1 r) ∧ ∀ a9 : Nat, G'.2.2 800 a9 = G.2.2 800 a9))))) := by
  refine zMet_of RX8 hX (by decide) rfl (Nat.le_of_ble_eq_true rfl) ?_
  intro p e s m args below meth c C hr hlk
  show Z p l e (zrm 7) s m args below meth c Γ 3 0 0 (MQ below (zQc Γ (zpi (fun x G' => zsn [402, 403, 404, 405, 406, 407, 408, 409, 410, 411, 412, 413, 2025, 206, 207, 2014, 2015, 2016, 2017, 2036, 2037, 2038, 2039, 2040, 2041, 2042, 2043, 609, 610, 611, 612, 704, 705, 706, 2045, 2046, 2047, 901, 912, 913, 510, 2048, 2049, 2050, 2051, 2052, 2053, 809, 810, 811, 812, 813, 910, 911, 2020] G G' ∧ ((0 ≤ k ∧ k ≤ G.1 901 w 0 → G'.1 901 w 0 = 0 ∧ ∃ A0 : aS, sCl A0 ∧ G'.1 912 w 0 = (sLN (G.1 2055 (Γ.2.1 w 0)) k 700 (sNext (G.1 2055 (Γ.2.1 w 0)) k A0)) 1 0 ∧ G'.1 913 w 0 = (sLN (G.1 2055 (Γ.2.1 w 0)) k 700 (sNext (G.1 2055 (Γ.2.1 w 0)) k A0)) 2 0 ∧ x = (if (sLN (G.1 2055 (Γ.2.1 w 0)) k 700 (sNext (G.1 2055 (Γ.2.1 w 0)) k A0)) 1 0 = 0 then sLC (G.1 2055 (Γ.2.1 w 0)) k 700 0 (sNext (G.1 2055 (Γ.2.1 w 0)) k A0) else -1) ∧ ((sLN (G.1 2055 (Γ.2.1 w 0)) k 700 (sNext (G.1 2055 (Γ.2.1 w 0)) k A0)) 1 0 = 0 → G'.2.2 903 w = (G.2.2 401 (Γ.2.1 w 2)) ∧ G'.2.2 401 (Γ.2.1 w 2) = G.2.2 903 w ∧ TV Γ (G.2.2 401 (Γ.2.1 w 2)) (sLN (G.1 2055 (Γ.2.1 w 0)) k 700 (sNext (G.1 2055 (Γ.2.1 w 0)) k A0)) G' ∧ (∃ U : aS, QQ Γ (Γ.2.1 w 4) (G.2.2 401 (Γ.2.1 w 2)) (sLN (G.1 2055 (Γ.2.1 w 0)) k 700 (sNext (G.1 2055 (Γ.2.1 w 0)) k A0)) U G' ∧ wBeg (sLN (G.1 2055 (Γ.2.1 w 0)) k 700 (sNext (G.1 2055 (Γ.2.1 w 0)) k A0)) U ∧ ∀ j : Nat, U 17 j = G.1 2054 (Γ.2.1 (Γ.2.1 w 4) 8) j) ∧ G'.1 910 w 0 = 0 ∧ G'.1 911 w 0 = 0) ∧ ((sLN (G.1 2055 (Γ.2.1 w 0)) k 700 (sNext (G.1 2055 (Γ.2.1 w 0)) k A0)) 1 0 ≠ 0 → (G'.2.2 903 w = G.2.2 903 w ∧ G'.2.2 401 (Γ.2.1 w 2) = (G.2.2 401 (Γ.2.1 w 2))) ∧ OF Γ (Γ.2.1 w 2) (G.2.2 401 (Γ.2.1 w 2)) G G' ∧ ((∀ r ∈ [510, 2026, 2027, 2028, 2029, 2030, 2031, 2032, 2033, 2034, 2035, 2048, 2049, 2050, 2051, 2052, 2053, 2054, 809, 810, 811, 812, 813, 910, 911, 2056], G'.1 r = G.1 r) ∧ ∀ a9 : Nat, G'.2.2 800 a9 = G.2.2 800 a9))) ∧ (¬ (0 ≤ k ∧ k ≤ G.1 901 w 0) → x = -2 ∧ G'.1 901 w 0 = G.1 901 w 0 ∧ G'.1 912 w 0 = G.1 912 w 0 ∧ G'.1 913 w 0 = G.1 913 w 0 ∧ (G'.2.2 903 w = G.2.2 903 w ∧ G'.2.2 401 (Γ.2.1 w 2) = (G.2.2 401 (Γ.2.1 w 2))) ∧ OF Γ (Γ.2.1 w 2) (G.2.2 401 (Γ.2.1 w 2)) G G' ∧ ((∀ r ∈ [510, 2026, 2027, 2028, 2029, 2030, 2031, 2032, 2033, 2034, 2035, 2048, 2049, 2050, 2051, 2052, 2053, 2054, 809, 810, 811, 812, 813, 910, 911, 2056], G'.1 r = G.1 r) ∧ ∀ a9 : Nat, G'.2.2 800 a9 = G.2.2 800 a9)))))) args s 0 0 (zA Γ)) 0 [some (zr 9 w), some (zi k), none] [] G
  refine zs_loc 1 rfl (fun ha1 hb1 => ?_)
  refine zs_good (fun hGy => ?_)
  have hby := hGy.1 901 w 0
  rw [r_901] at hby
  refine zs_iload_n (pc := 0) C dX8_text_0 rfl ?_
  refine zs_if_lt (tgt := 12) (pc := 1) C dX8_text_1 (by decide) (fun h1 => ?_) (fun h1 => ?_)
  · skip
    refine zs_bipush (pc := 12) C dX8_text_12 (by decide) (by decide) ?_
    exact zs_iret (pc := 14) C hr hlk dX8_text_14 ⟨by repeat (first | exact zsn_rf | assumption | refine zsn_C (by decide) ?_ | refine zsn_I (by decide) ?_ | refine zsn_J ?_ | refine zsn_P ?_ | refine zsn_m (by assumption) (by decide) ?_ | refine zsn_c (by assumption) (by decide) ?_), ⟨fun q => by omega, fun _ => ⟨rfl, rfl, rfl, rfl, ⟨rfl, rfl⟩, OF_rf, (fun _ _ => rfl), fun _ => rfl⟩⟩⟩
  · skip
    refine zs_iload_n (pc := 4) C dX8_text_4 rfl ?_
    refine zs_aload_n (pc := 5) C dX8_text_5 rfl ?_
    refine zs_geti (r := 901) (pc := 6) C dX8_text_6 w_X8_67 f_9_1 rfl (r_901 0) (fun v6 e6 l6 u6 => ?_)
    refine zs_icmp_le (tgt := 15) (pc := 9) C dX8_text_9 (by decide) (fun h9 => ?_) (fun h9 => ?_)
    · skip
      refine zs_aload_n (pc := 15) C dX8_text_15 rfl ?_
      refine zs_iconst (pc := 16) C dX8_text_16 (by decide) ?_
      refine zs_puti (r := 901) (pc := 17) C dX8_text_17 w_X8_67 f_9_1 rfl (r_901 0) (by omega) ?_
      refine zs_aload_n (pc := 20) C dX8_text_20 rfl ?_
      refine zs_getf (pc := 21) C dX8_text_21 w_X8_18 f_9_2 (by decide) ?_
      refine zs_aload_n (pc := 24) C dX8_text_24 rfl ?_
      refine zs_getf (pc := 25) C dX8_text_25 w_X8_11 f_9_0 (by decide) ?_
      refine zs_iload_n (pc := 28) C dX8_text_28 rfl ?_
      refine zVi2 (pc := 29) C dX8_text_29 v_X8_74 (c_X3_readAllF (t := G.2.2 401 (Γ.2.1 w 2)) hX rfl (by omega) (fun q9 hq9 => by simp only [zuI_1, zuI_2, zuJ_1, zuJ_2, zuJ_3, zuP_1, zuP_2, zuP_3, zuC_1, zuC_2, reduceIte, Nat.reduceEqDiff, false_and, and_false, true_and, and_true, and_self, or_true, true_or, or_false, false_or]; exact hw q9 hq9)) (by decide) (by decide) ⟨Nat.zero_le _, Nat.zero_le _⟩ (Nat.le_of_ble_eq_true rfl) (fun x29 G29 l29 u29 hp29 => ?_)
      obtain ⟨hz29, hq29⟩ := hp29
      try simp only [zuI_1, zuI_2, zuJ_1, zuJ_2, zuJ_3, zuP_1, zuP_2, zuP_3, zuC_1, zuC_2, reduceIte, Nat.reduceEqDiff, false_and, and_false, true_and, and_true, and_self, or_true, true_or, or_false, false_or] at hq29
      have tr29_901 := zsm_at hz29 901 w 0 (by decide)
      try simp only [zuI_1, zuI_2, zuJ_1, zuJ_2, zuJ_3, zuP_1, zuP_2, zuP_3, zuC_1, zuC_2, reduceIte, Nat.reduceEqDiff, false_and, and_false, true_and, and_true, and_self, or_true, true_or, or_false, false_or] at tr29_901
      have tr29_912 := zsm_at hz29 912 w 0 (by decide)
      try simp only [zuI_1, zuI_2, zuJ_1, zuJ_2, zuJ_3, zuP_1, zuP_2, zuP_3, zuC_1, zuC_2, reduceIte, Nat.reduceEqDiff, false_and, and_false, true_and, and_true, and_self, or_true, true_or, or_false, false_or] at tr29_912
      have tr29_913 := zsm_at hz29 913 w 0 (by decide)
      try simp only [zuI_1, zuI_2, zuJ_1, zuJ_2, zuJ_3, zuP_1, zuP_2, zuP_3, zuC_1, zuC_2, reduceIte, Nat.reduceEqDiff, false_and, and_false, true_and, and_true, and_self, or_true, true_or, or_false, false_or] at tr29_913
      simp (disch := decide) only [zuI_nf] at hq29
      obtain ⟨N9, A0, hcl, hx29, hQ29, hO29⟩ := hq29
      have f7 := QC_407 hQ29
      have f8 := QC_408 hQ29
      have rf29 : ∀ r a : Nat, G29.2.2 r a = G.2.2 r a := fun r a => by rw [hz29.2]; rfl
      have hOb : OF Γ (Γ.2.1 w 2) (G.2.2 401 (Γ.2.1 w 2)) G G29 := OF_b (rs := [901]) (by exact zsn_I (by decide) zsn_rf) (fun f h1 h2 => (show ∀ f : Nat, f < 22 → 4 ≤ f → creg f ∉ [901] by decide +kernel) f h1 h2) hO29
      refine zs_istore_n (pc := 32) C dX8_text_32 (by decide) ?_
      dsimp only [zset, zclr, znone]
      refine zs_aload_n (pc := 33) C dX8_text_33 rfl ?_
      refine zs_aload_n (pc := 34) C dX8_text_34 rfl ?_
      refine zs_getf (pc := 35) C dX8_text_35 w_X8_18 f_9_2 (by decide) ?_
      refine zs_geti (r := 407) (pc := 38) C dX8_text_38 w_X8_78 f_4_7 rfl (r_407 0) (fun v38 e38 l38 u38 => ?_)
      refine zs_puti (r := 912) (pc := 41) C dX8_text_41 w_X8_81 f_9_12 rfl (r_912 0) (by omega) ?_
      refine zs_aload_n (pc := 44) C dX8_text_44 rfl ?_
      refine zs_aload_n (pc := 45) C dX8_text_45 rfl ?_
      refine zs_getf (pc := 46) C dX8_text_46 w_X8_18 f_9_2 (by decide) ?_
      refine zs_geti (r := 408) (pc := 49) C dX8_text_49 w_X8_82 f_4_8 rfl (r_408 0) (fun v49 e49 l49 u49 => ?_)
      try simp only [zuI_1, zuI_2, zuJ_1, zuJ_2, zuJ_3, zuP_1, zuP_2, zuP_3, zuC_1, zuC_2, reduceIte, Nat.reduceEqDiff, false_and, and_false, true_and, and_true, and_self, or_true, true_or, or_false, false_or] at e49
      refine zs_puti (r := 913) (pc := 52) C dX8_text_52 w_X8_63 f_9_13 rfl (r_913 0) (by omega) ?_
      refine zs_aload_n (pc := 55) C dX8_text_55 rfl ?_
      refine zs_geti (r := 912) (pc := 56) C dX8_text_56 w_X8_81 f_9_12 rfl (r_912 0) (fun v56 e56 l56 u56 => ?_)
      try simp only [zuI_1, zuI_2, zuJ_1, zuJ_2, zuJ_3, zuP_1, zuP_2, zuP_3, zuC_1, zuC_2, reduceIte, Nat.reduceEqDiff, false_and, and_false, true_and, and_true, and_self, or_true, true_or, or_false, false_or] at e56
      refine zs_if_eq (tgt := 64) (pc := 59) C dX8_text_59 (by decide) (fun h59 => ?_) (fun h59 => ?_)
      · skip
        refine zs_aload_n (pc := 64) C dX8_text_64 rfl ?_
        refine zs_aload_n (pc := 65) C dX8_text_65 rfl ?_
        refine zs_getf (pc := 66) C dX8_text_66 w_X8_18 f_9_2 (by decide) ?_
        refine zs_aload_n (pc := 69) C dX8_text_69 rfl ?_
        refine zs_getd (r := 903) (pc := 70) C dX8_text_70 w_X8_25 f_9_3 (by decide) rfl (fun v70 e70 t70 => ?_)
        try simp only [hz29.2, zuI_1, zuI_2, zuJ_1, zuJ_2, zuJ_3, zuP_1, zuP_2, zuP_3, zuC_1, zuC_2, reduceIte, Nat.reduceEqDiff, false_and, and_false, true_and, and_true, and_self, or_true, true_or, or_false, false_or] at e70
        refine zVa1 (pc := 73) C dX8_text_73 v_X8_83 (c_X3_handOverK hX ) (by decide) (by decide) ⟨Nat.zero_le _, Nat.zero_le _⟩ (Nat.le_of_ble_eq_true rfl) (fun x73 G73 hp73 => ?_)
        obtain ⟨hz73, hq73⟩ := hp73
        try simp only [zuI_1, zuI_2, zuJ_1, zuJ_2, zuJ_3, zuP_1, zuP_2, zuP_3, zuC_1, zuC_2, reduceIte, Nat.reduceEqDiff, false_and, and_false, true_and, and_true, and_self, or_true, true_or, or_false, false_or] at hq73
        have tr73_901 := zsn_at hz73 901 w 0 (by decide)
        try simp only [zuI_1, zuI_2, zuJ_1, zuJ_2, zuJ_3, zuP_1, zuP_2, zuP_3, zuC_1, zuC_2, reduceIte, Nat.reduceEqDiff, false_and, and_false, true_and, and_true, and_self, or_true, true_or, or_false, false_or] at tr73_901
        have tr73_912 := zsn_at hz73 912 w 0 (by decide)
        try simp only [zuI_1, zuI_2, zuJ_1, zuJ_2, zuJ_3, zuP_1, zuP_2, zuP_3, zuC_1, zuC_2, reduceIte, Nat.reduceEqDiff, false_and, and_false, true_and, and_true, and_self, or_true, true_or, or_false, false_or] at tr73_912
        have tr73_913 := zsn_at hz73 913 w 0 (by decide)
        try simp only [zuI_1, zuI_2, zuJ_1, zuJ_2, zuJ_3, zuP_1, zuP_2, zuP_3, zuC_1, zuC_2, reduceIte, Nat.reduceEqDiff, false_and, and_false, true_and, and_true, and_self, or_true, true_or, or_false, false_or] at tr73_913
        obtain ⟨hx73, hG73⟩ := hq73
        have r401 : G73.2.2 401 (Γ.2.1 w 2) = v70 := by rw [hG73, zuP_3, if_pos ⟨rfl, rfl⟩]
        have r70 : v70 = G.2.2 903 w := by first | exact e70 | exact e70.trans (rf29 903 w) | (rw [e70]; exact rf29 903 w)
        have x73e : x73 = (G.2.2 401 (Γ.2.1 w 2)) := by rw [hx73]; exact rf29 401 (Γ.2.1 w 2)
        refine zs_putd (r := 903) (pc := 76) C dX8_text_76 w_X8_25 f_9_3 (by decide) rfl ?_
        refine zs_aload_n (pc := 79) C dX8_text_79 rfl ?_
        refine zs_getf (pc := 80) C dX8_text_80 w_X8_34 f_9_4 (by decide) ?_
        refine zs_aload_n (pc := 83) C dX8_text_83 rfl ?_
        refine zs_getd (r := 903) (pc := 84) C dX8_text_84 w_X8_25 f_9_3 (by decide) rfl (fun v84 e84 t84 => ?_)
        try simp only [zuI_1, zuI_2, zuJ_1, zuJ_2, zuJ_3, zuP_1, zuP_2, zuP_3, zuC_1, zuC_2, reduceIte, Nat.reduceEqDiff, false_and, and_false, true_and, and_true, and_self, or_true, true_or, or_false, false_or] at e84
        refine zVv1 (pc := 87) C dX8_text_87 v_X8_87 (c_X7_beginK hX ) (by decide) (by decide) ⟨Nat.zero_le _, Nat.zero_le _⟩ (Nat.le_of_ble_eq_true rfl) (fun G87 hp87 => ?_)
        obtain ⟨hz87, hq87⟩ := hp87
        try simp only [zuI_1, zuI_2, zuJ_1, zuJ_2, zuJ_3, zuP_1, zuP_2, zuP_3, zuC_1, zuC_2, reduceIte, Nat.reduceEqDiff, false_and, and_false, true_and, and_true, and_self, or_true, true_or, or_false, false_or] at hq87
        have tr87_901 := zsn_at hz87 901 w 0 (by decide)
        try simp only [zuI_1, zuI_2, zuJ_1, zuJ_2, zuJ_3, zuP_1, zuP_2, zuP_3, zuC_1, zuC_2, reduceIte, Nat.reduceEqDiff, false_and, and_false, true_and, and_true, and_self, or_true, true_or, or_false, false_or] at tr87_901
        have tr87_912 := zsn_at hz87 912 w 0 (by decide)
        try simp only [zuI_1, zuI_2, zuJ_1, zuJ_2, zuJ_3, zuP_1, zuP_2, zuP_3, zuC_1, zuC_2, reduceIte, Nat.reduceEqDiff, false_and, and_false, true_and, and_true, and_self, or_true, true_or, or_false, false_or] at tr87_912
        have tr87_913 := zsn_at hz87 913 w 0 (by decide)
        try simp only [zuI_1, zuI_2, zuJ_1, zuJ_2, zuJ_3, zuP_1, zuP_2, zuP_3, zuC_1, zuC_2, reduceIte, Nat.reduceEqDiff, false_and, and_false, true_and, and_true, and_self, or_true, true_or, or_false, false_or] at tr87_913
        obtain ⟨r87, o87, b87⟩ := hq87
        have hT87 : TV Γ (G.2.2 401 (Γ.2.1 w 2)) (sLN (G.1 2055 (Γ.2.1 w 0)) k 700 (sNext (G.1 2055 (Γ.2.1 w 0)) k A0)) (zuP G73 903 w x73) := TV_n (rs := [912, 913]) (G := G29) (by repeat (first | exact zsn_rf | assumption | refine zsn_C (by decide) ?_ | refine zsn_I (by decide) ?_ | refine zsn_J ?_ | refine zsn_P ?_ | refine zsn_m (by assumption) (by decide) ?_ | refine zsn_c (by assumption) (by decide) ?_)) (fun f h1 h2 => (show ∀ f : Nat, f < 22 → 4 ≤ f → creg f ∉ [912, 913] by decide +kernel) f h1 h2) (TV_QC hQ29)
        have y84 : v84 = (G.2.2 401 (Γ.2.1 w 2)) := by
          rw [e84]
          first
          | exact x73e
          | (rw [zuP_3, if_pos ⟨rfl, rfl⟩]; exact x73e)
        obtain ⟨U, hU, hUb, hU7⟩ := QQ_bg2 hz87 (by decide +kernel) (by rw [y84]; exact hT87) (by rw [r87, zuP_3, if_pos ⟨rfl, rfl⟩]) o87 b87
        refine zs_aload_n (pc := 90) C dX8_text_90 rfl ?_
        refine zs_iconst (pc := 91) C dX8_text_91 (by decide) ?_
        refine zs_putz (r := 911) (pc := 92) C dX8_text_92 w_X8_90 f_9_11 rfl (r_911 0) (by omega) (by omega) ?_
        refine zs_aload_n (pc := 95) C dX8_text_95 rfl ?_
        refine zs_iconst (pc := 96) C dX8_text_96 (by decide) ?_
        refine zs_puti (r := 910) (pc := 97) C dX8_text_97 w_X8_94 f_9_10 rfl (r_910 0) (by omega) ?_
        refine zs_aload_n (pc := 100) C dX8_text_100 rfl ?_
        refine zs_getf (pc := 101) C dX8_text_101 w_X8_49 f_9_7 (by decide) ?_
        refine zVv0 (pc := 104) C dX8_text_104 v_X8_97 (c_X2_forget hX ) (by decide) (by decide) ⟨Nat.zero_le _, Nat.zero_le _⟩ (Nat.le_of_ble_eq_true rfl) (fun G104 hp104 => ?_)
        obtain ⟨hz104, hq104⟩ := hp104
        try simp only [zuI_1, zuI_2, zuJ_1, zuJ_2, zuJ_3, zuP_1, zuP_2, zuP_3, zuC_1, zuC_2, reduceIte, Nat.reduceEqDiff, false_and, and_false, true_and, and_true, and_self, or_true, true_or, or_false, false_or] at hq104
        have tr104_901 := zsm_at hz104 901 w 0 (by decide)
        try simp only [zuI_1, zuI_2, zuJ_1, zuJ_2, zuJ_3, zuP_1, zuP_2, zuP_3, zuC_1, zuC_2, reduceIte, Nat.reduceEqDiff, false_and, and_false, true_and, and_true, and_self, or_true, true_or, or_false, false_or] at tr104_901
        have tr104_912 := zsm_at hz104 912 w 0 (by decide)
        try simp only [zuI_1, zuI_2, zuJ_1, zuJ_2, zuJ_3, zuP_1, zuP_2, zuP_3, zuC_1, zuC_2, reduceIte, Nat.reduceEqDiff, false_and, and_false, true_and, and_true, and_self, or_true, true_or, or_false, false_or] at tr104_912
        have tr104_913 := zsm_at hz104 913 w 0 (by decide)
        try simp only [zuI_1, zuI_2, zuJ_1, zuJ_2, zuJ_3, zuP_1, zuP_2, zuP_3, zuC_1, zuC_2, reduceIte, Nat.reduceEqDiff, false_and, and_false, true_and, and_true, and_self, or_true, true_or, or_false, false_or] at tr104_913
        have q903 : G104.2.2 903 w = x73 := by
          rw [hz104.2]
          show G87.2.2 903 w = x73
          rw [r87, zuP_3, if_neg (fun q => absurd q.1 (by decide)), zuP_3, if_pos ⟨rfl, rfl⟩]
        have q401 : G104.2.2 401 (Γ.2.1 w 2) = v70 := by
          rw [hz104.2]
          show G87.2.2 401 (Γ.2.1 w 2) = v70
          rw [r87, zuP_3, if_neg (fun q => absurd q.1 (by decide)), zuP_3, if_neg (fun q => absurd q.1 (by decide))]
          exact r401
        have hTV : TV Γ (G.2.2 401 (Γ.2.1 w 2)) (sLN (G.1 2055 (Γ.2.1 w 0)) k 700 (sNext (G.1 2055 (Γ.2.1 w 0)) k A0)) G104 := TV_n (rs := [912, 913, 510, 2048, 2049, 2050, 2051, 2052, 2053, 809, 810, 811, 812, 813, 910, 911, 2020]) (G := G29) (by repeat (first | exact zsn_rf | assumption | refine zsn_C (by decide) ?_ | refine zsn_I (by decide) ?_ | refine zsn_J ?_ | refine zsn_P ?_ | refine zsn_m (by assumption) (by decide) ?_ | refine zsn_c (by assumption) (by decide) ?_)) (fun f h1 h2 => (show ∀ f : Nat, f < 22 → 4 ≤ f → creg f ∉ [912, 913, 510, 2048, 2049, 2050, 2051, 2052, 2053, 809, 810, 811, 812, 813, 910, 911, 2020] by decide +kernel) f h1 h2) (TV_QC hQ29)
        rw [y84] at hU
        have hU104 : QQ Γ (Γ.2.1 w 4) (G.2.2 401 (Γ.2.1 w 2)) (sLN (G.1 2055 (Γ.2.1 w 0)) k 700 (sNext (G.1 2055 (Γ.2.1 w 0)) k A0)) U G104 := QQ_sm hz104 (by decide) (by decide +kernel) (by first | exact QQ_910 (QQ_911 hU) | exact QQ_911 (QQ_910 hU))
        have hU7b : ∀ j : Nat, U 17 j = G.1 2054 (Γ.2.1 (Γ.2.1 w 4) 8) j := fun j => by
          rw [hU7 j]
          show G73.1 2054 _ j = _
          rw [hz73 2054 (by decide)]
          simp only [zuI_1, zuI_2, zuJ_1, zuJ_2, zuJ_3, zuP_1, zuP_2, zuP_3, zuC_1, zuC_2, reduceIte, Nat.reduceEqDiff, false_and, and_false, true_and, and_true, and_self, or_true, true_or, or_false, false_or, hz29.1 2054 (by decide)]
        have t910 := zsm_at hz104 910 w 0 (by decide)
        have t911 := zsm_at hz104 911 w 0 (by decide)
        try simp only [zuI_1, zuI_2, zuJ_1, zuJ_2, zuJ_3, zuP_1, zuP_2, zuP_3, zuC_1, zuC_2, reduceIte, Nat.reduceEqDiff, false_and, and_false, true_and, and_true, and_self, or_true, true_or, or_false, false_or] at t910 t911
        refine zs_iload_n (pc := 107) C dX8_text_107 rfl ?_
        exact zs_iret (pc := 108) C hr hlk dX8_text_108 ⟨by repeat (first | exact zsn_rf | assumption | refine zsn_C (by decide) ?_ | refine zsn_I (by decide) ?_ | refine zsn_J ?_ | refine zsn_P ?_ | refine zsn_m (by assumption) (by decide) ?_ | refine zsn_c (by assumption) (by decide) ?_), ⟨fun _ => ⟨by first | omega | (simp only [zuI_1, zuI_2, zuJ_1, zuJ_2, zuJ_3, zuP_1, zuP_2, zuP_3, zuC_1, zuC_2, reduceIte, Nat.reduceEqDiff, false_and, and_false, true_and, and_true, and_self, or_true, true_or, or_false, false_or] <;> omega), A0, hcl, by first | omega | (simp only [zuI_1, zuI_2, zuJ_1, zuJ_2, zuJ_3, zuP_1, zuP_2, zuP_3, zuC_1, zuC_2, reduceIte, Nat.reduceEqDiff, false_and, and_false, true_and, and_true, and_self, or_true, true_or, or_false, false_or] <;> omega), by first | omega | (simp only [zuI_1, zuI_2, zuJ_1, zuJ_2, zuJ_3, zuP_1, zuP_2, zuP_3, zuC_1, zuC_2, reduceIte, Nat.reduceEqDiff, false_and, and_false, true_and, and_true, and_self, or_true, true_or, or_false, false_or] <;> omega), by rw [if_pos (by omega)]; exact hx29, fun _ => ⟨q903.trans x73e, q401.trans r70, hTV, ⟨U, hU104, hUb, hU7b⟩, by omega, by omega⟩, fun q => absurd (show (sLN (G.1 2055 (Γ.2.1 w 0)) k 700 (sNext (G.1 2055 (Γ.2.1 w 0)) k A0)) 1 0 = 0 by omega) q⟩, fun q => by omega⟩⟩
      · skip
        refine zs_iconst (pc := 62) C dX8_text_62 (by decide) ?_
        exact zs_iret (pc := 63) C hr hlk dX8_text_63 ⟨by repeat (first | exact zsn_rf | assumption | refine zsn_C (by decide) ?_ | refine zsn_I (by decide) ?_ | refine zsn_J ?_ | refine zsn_P ?_ | refine zsn_m (by assumption) (by decide) ?_ | refine zsn_c (by assumption) (by decide) ?_), ⟨fun _ => ⟨by first | omega | (simp only [zuI_1, zuI_2, zuJ_1, zuJ_2, zuJ_3, zuP_1, zuP_2, zuP_3, zuC_1, zuC_2, reduceIte, Nat.reduceEqDiff, false_and, and_false, true_and, and_true, and_self, or_true, true_or, or_false, false_or] <;> omega), A0, hcl, by first | omega | (simp only [zuI_1, zuI_2, zuJ_1, zuJ_2, zuJ_3, zuP_1, zuP_2, zuP_3, zuC_1, zuC_2, reduceIte, Nat.reduceEqDiff, false_and, and_false, true_and, and_true, and_self, or_true, true_or, or_false, false_or] <;> omega), by first | omega | (simp only [zuI_1, zuI_2, zuJ_1, zuJ_2, zuJ_3, zuP_1, zuP_2, zuP_3, zuC_1, zuC_2, reduceIte, Nat.reduceEqDiff, false_and, and_false, true_and, and_true, and_self, or_true, true_or, or_false, false_or] <;> omega), by rw [if_neg (by omega)], fun q => absurd q (by omega), fun _ => ⟨⟨rf29 903 w, rf29 401 (Γ.2.1 w 2)⟩, OF_n (rs := [912, 913]) (G1 := G29) (by repeat (first | exact zsn_rf | assumption | refine zsn_C (by decide) ?_ | refine zsn_I (by decide) ?_ | refine zsn_J ?_ | refine zsn_P ?_ | refine zsn_m (by assumption) (by decide) ?_ | refine zsn_c (by assumption) (by decide) ?_)) (fun f h1 h2 => (show ∀ f : Nat, f < 22 → 4 ≤ f → creg f ∉ [912, 913] by decide +kernel) f h1 h2) hOb, (fun r hr => (show zsn [402, 403, 404, 405, 406, 407, 408, 409, 410, 411, 412, 413, 2025, 206, 207, 2014, 2015, 2016, 2017, 2036, 2037, 2038, 2039, 2040, 2041, 2042, 2043, 609, 610, 611, 612, 704, 705, 706, 2045, 2046, 2047, 901, 912, 913] G _ from (by repeat (first | exact zsn_rf | assumption | refine zsn_C (by decide) ?_ | refine zsn_I (by decide) ?_ | refine zsn_J ?_ | refine zsn_P ?_ | refine zsn_m (by assumption) (by decide) ?_ | refine zsn_c (by assumption) (by decide) ?_))) r ((show ∀ r ∈ [510, 2026, 2027, 2028, 2029, 2030, 2031, 2032, 2033, 2034, 2035, 2048, 2049, 2050, 2051, 2052, 2053, 2054, 809, 810, 811, 812, 813, 910, 911, 2056], r ∉ [402, 403, 404, 405, 406, 407, 408, 409, 410, 411, 412, 413, 2025, 206, 207, 2014, 2015, 2016, 2017, 2036, 2037, 2038, 2039, 2040, 2041, 2042, 2043, 609, 610, 611, 612, 704, 705, 706, 2045, 2046, 2047, 901, 912, 913] by decide) r hr)), fun a9 => rf29 800 a9⟩⟩, fun q => by omega⟩⟩
    · skip
      refine zs_bipush (pc := 12) C dX8_text_12 (by decide) (by decide) ?_
      exact zs_iret (pc := 14) C hr hlk dX8_text_14 ⟨by repeat (first | exact zsn_rf | assumption | refine zsn_C (by decide) ?_ | refine zsn_I (by decide) ?_ | refine zsn_J ?_ | refine zsn_P ?_ | refine zsn_m (by assumption) (by decide) ?_ | refine zsn_c (by assumption) (by decide) ?_), ⟨fun q => by omega, fun _ => ⟨rfl, rfl, rfl, rfl, ⟨rfl, rfl⟩, OF_rf, (fun _ _ => rfl), fun _ => rfl⟩⟩⟩
