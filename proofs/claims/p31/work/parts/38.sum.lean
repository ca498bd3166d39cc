theorem c3_le (W : Nat → Int) (n : Nat) : 0 ≤ c3 W n ∧ c3 W n ≤ n := zct_le _ n
theorem c0_le (W : Nat → Int) (n : Nat) : 0 ≤ c0 W n ∧ c0 W n ≤ n := zct_le _ n
/-- what holds of the stack of signs -/
def PI (Γ : zΓ) (w : Nat) (G : zH) : Prop := G.1 1043 w 0 = c3 (G.1 2077 (Γ.2.1 w 40)) (G.1 1042 w 0).toNat + 1 - G.1 1046 w 0 ∧ G.1 1044 w 0 = c0 (G.1 2077 (Γ.2.1 w 40)) (G.1 1042 w 0).toNat ∧ G.1 1045 w 0 = G.1 1021 w 0 + G.1 1042 w 0 - G.1 1044 w 0 ∧ (G.1 1046 w 0 = 0 → 1 ≤ G.1 1021 w 0)
theorem PI_sm {Γ : zΓ} {w : Nat} {G G1 : zH} {rs : List Nat} (h : zsm rs G G1) (hr : 1043 ∉ rs ∧ 2077 ∉ rs ∧ 1042 ∉ rs ∧ 1046 ∉ rs ∧ 1044 ∉ rs ∧ 1045 ∉ rs ∧ 1021 ∉ rs) (hQ : PI Γ w G) : PI Γ w G1 := by
  obtain ⟨h1, h2, h3, h4, h5, h6, h7⟩ := hr
  unfold PI
  rw [h.1 _ h1, h.1 _ h2, h.1 _ h3, h.1 _ h4, h.1 _ h5, h.1 _ h6, h.1 _ h7]
  exact hQ
theorem PI_I {Γ : zΓ} {w : Nat} {G : zH} {r a i : Nat} {x : Int} (hr : r ≠ 1043 ∧ r ≠ 2077 ∧ r ≠ 1042 ∧ r ≠ 1046 ∧ r ≠ 1044 ∧ r ≠ 1045 ∧ r ≠ 1021) (hQ : PI Γ w G) : PI Γ w (zuI G r a i x) :=
  PI_sm (rs := [r]) (zsm_I (by simp) zsm_rf) (by simp; omega) hQ
theorem PI_0 {Γ : zΓ} {w : Nat} {G : zH} (h1 : G.1 1042 w 0 = 0) (h2 : G.1 1043 w 0 = 0) (h3 : G.1 1044 w 0 = 0) (h4 : G.1 1046 w 0 = 1) (h5 : G.1 1045 w 0 = G.1 1021 w 0) : PI Γ w G := by
  have k3 := c3_le (G.1 2077 (Γ.2.1 w 40)) 0
  have k0 := c0_le (G.1 2077 (Γ.2.1 w 40)) 0
  unfold PI
  rw [h1]
  refine ⟨?_, ?_, ?_, fun q => ?_⟩
  · rw [show (0 : Int).toNat = 0 from rfl]; omega
  · rw [show (0 : Int).toNat = 0 from rfl]; omega
  · omega
  · omega

set_option maxHeartbeats 4000000 in
set_option maxRecDepth 100000 in
theorem c_X9_bind {l : Launch} {Γ : zΓ} {G : zH} {w : Nat} {r : Int} (hX : zXs Γ) (hM : MI Γ w G)(hQ : PI Γ w G) (h1r : 1 ≤ r) (hw : G.1 1046 w 0 = 0) : zMet l Γ yX9_bind cX9_bind 5 none 1 [zr 10 w, zi r] G (zpv (fun G' => zsm [2074, 2075, 2076, 2078, 1043, 1021, 1042] G G' ∧ (MI Γ w G' ∧ PI Γ w G' ∧ (r ≤ 1 → G'.1 1042 w 0 = 0 ∨ G'.1 2077 (Γ.2.1 w 40) (G'.1 1042 w 0 - 1).toNat < 2)))) := by
  refine zMet_of RX9 hX (by decide) rfl (Nat.le_of_ble_eq_true rfl) ?_
  intro p e s m args below meth c C hr hlk
  show Z p l e (zrm 1) s m args below meth c Γ 5 0 0 (MQ below (zQc Γ (zpv (fun G' => zsm [2074, 2075, 2076, 2078, 1043, 1021, 1042] G G' ∧ (MI Γ w G' ∧ PI Γ w G' ∧ (r ≤ 1 → G'.1 1042 w 0 = 0 ∨ G'.1 2077 (Γ.2.1 w 40) (G'.1 1042 w 0 - 1).toNat < 2))))) args s 0 0 (zA Γ)) 0 [some (zr 10 w), some (zi r), none, none, none] [] G
  refine zs_loc 1 rfl (fun ha1 hb1 => ?_)
  have L0 : ∀ (nn : Nat) (G1 : zH), (zsm [2074, 2075, 2076, 2078, 1043, 1021, 1042] G G1) → (MI Γ w G1) → (PI Γ w G1) → (G1.1 1042 w 0).toNat < nn → Z p l e (zrm 1) s m args below meth c Γ 5 0 0 (MQ below (zQc Γ (zpv (fun G' => zsm [2074, 2075, 2076, 2078, 1043, 1021, 1042] G G' ∧ (MI Γ w G' ∧ PI Γ w G' ∧ (r ≤ 1 → G'.1 1042 w 0 = 0 ∨ G'.1 2077 (Γ.2.1 w 40) (G'.1 1042 w 0 - 1).toNat < 2))))) args s 0 0 (zA Γ)) 0 [some (zr 10 w), some (zi r), none, none, none] [] G1 := by
    intro nn
    induction nn with
    | zero => intro G1 h0_0 h0_1 h0_2 hm; exact absurd hm (Nat.not_lt_zero _)
    | succ nn ih0 =>
      intro G1 h0_0 h0_1 h0_2 hm0
      have t46 := zsm_at h0_0 1046 w 0 (by decide)
      have p1 := h0_2.1
      have p2 := h0_2.2.1
      have p3 := h0_2.2.2.1
      have p4 := h0_2.2.2.2
      have k3 := c3_le (G1.1 2077 (Γ.2.1 w 40)) (G1.1 1042 w 0).toNat
      have k0 := c0_le (G1.1 2077 (Γ.2.1 w 40)) (G1.1 1042 w 0).toNat
      refine zs_good (fun hGdg => ?_)
      have hbg_1042 := hGdg.1 1042 w 0
      rw [r_1042] at hbg_1042
      have hbg_1044 := hGdg.1 1044 w 0
      rw [r_1044] at hbg_1044
      have hbg_1045 := hGdg.1 1045 w 0
      rw [r_1045] at hbg_1045
      have hbg_1021 := hGdg.1 1021 w 0
      rw [r_1021] at hbg_1021
      refine zs_aload_n (pc := 0) C dX9_bind_0 rfl ?_
      refine zs_geti (r := 1042) (pc := 1) C dX9_bind_1 w_X9_313 f_10_42 rfl (r_1042 0) (fun v1 e1 l1 u1 => ?_)
      refine zs_if_le (tgt := 76) (pc := 4) C dX9_bind_4 (by decide) (fun h4 => ?_) (fun h4 => ?_)
      · skip
        exact zs_vret (pc := 76) C hr hlk dX9_bind_76 ⟨by repeat (first | exact zsm_rf | assumption | refine zsm_C (by decide) ?_ | refine zsm_I (by decide) ?_ | refine zsm_J ?_ | refine zsm_c (by assumption) (by decide) ?_), ⟨h0_1, h0_2, fun q => by first | (left; omega) | (right; rw [← e12, ← e17]; omega)⟩⟩
      · skip
        refine zs_aload_n (pc := 7) C dX9_bind_7 rfl ?_
        refine zs_getf (pc := 8) C dX9_bind_8 w_X9_75 f_10_40 (by decide) ?_
        refine zs_aload_n (pc := 11) C dX9_bind_11 rfl ?_
        refine zs_geti (r := 1042) (pc := 12) C dX9_bind_12 w_X9_313 f_10_42 rfl (r_1042 0) (fun v12 e12 l12 u12 => ?_)
        refine zs_iconst (pc := 15) C dX9_bind_15 (by decide) ?_
        first | refine zs_isub (pc := 16) C dX9_bind_16 (by omega) ?_ | refine zs_isubF (pc := 16) C dX9_bind_16 (fun z16 hz161 hz162 => ?_)
        refine zs_iald (r := 2077) (pc := 17) C dX9_bind_17 a_77 (by decide) (by omega) rfl (r_2077 _) (fun v17 e17 l17 u17 => ?_)
        refine zSip1 (pc := 18) C dX9_bind_18 s_X9_316 (c_X9_rank hX ) (by decide) ⟨Nat.zero_le _, Nat.zero_le _⟩ (Nat.le_of_ble_eq_true rfl) (fun x18 l18 u18 hp18 => ?_)
        have hq18 := hp18
        refine zs_iload_n (pc := 21) C dX9_bind_21 rfl ?_
        refine zs_icmp_lt (tgt := 76) (pc := 22) C dX9_bind_22 (by decide) (fun h22 => ?_) (fun h22 => ?_)
        · skip
          exact zs_vret (pc := 76) C hr hlk dX9_bind_76 ⟨by repeat (first | exact zsm_rf | assumption | refine zsm_C (by decide) ?_ | refine zsm_I (by decide) ?_ | refine zsm_J ?_ | refine zsm_c (by assumption) (by decide) ?_), ⟨h0_1, h0_2, fun q => by first | (left; omega) | (right; rw [← e12, ← e17]; omega)⟩⟩
        · skip
          have c3p := c3_pop (W := G1.1 2077 (Γ.2.1 w 40)) (n := G1.1 1042 w 0) (by omega)
          have c0p := c0_pop (W := G1.1 2077 (Γ.2.1 w 40)) (n := G1.1 1042 w 0) (by omega)
          have c3l := c3_le (G1.1 2077 (Γ.2.1 w 40)) (G1.1 1042 w 0 - 1).toNat
          have c0l := c0_le (G1.1 2077 (Γ.2.1 w 40)) (G1.1 1042 w 0 - 1).toNat
          have w17 : v17 = G1.1 2077 (Γ.2.1 w 40) (G1.1 1042 w 0 - 1).toNat := by rw [e17, e12]
          have k17 : 2 ≤ v17 := by omega
          rw [← w17] at c3p c0p
          refine zs_aload_n (pc := 25) C dX9_bind_25 rfl ?_
          refine zs_dupa (pc := 26) C dX9_bind_26 ?_
          refine zs_geti (r := 1042) (pc := 27) C dX9_bind_27 w_X9_313 f_10_42 rfl (r_1042 0) (fun v27 e27 l27 u27 => ?_)
          refine zs_iconst (pc := 30) C dX9_bind_30 (by decide) ?_
          first | refine zs_isub (pc := 31) C dX9_bind_31 (by omega) ?_ | refine zs_isubF (pc := 31) C dX9_bind_31 (fun z31 hz311 hz312 => ?_)
          refine zs_puti (r := 1042) (pc := 32) C dX9_bind_32 w_X9_313 f_10_42 rfl (r_1042 0) (by omega) ?_
          refine zs_aload_n (pc := 35) C dX9_bind_35 rfl ?_
          refine zs_getf (pc := 36) C dX9_bind_36 w_X9_75 f_10_40 (by decide) ?_
          refine zs_aload_n (pc := 39) C dX9_bind_39 rfl ?_
          refine zs_geti (r := 1042) (pc := 40) C dX9_bind_40 w_X9_313 f_10_42 rfl (r_1042 0) (fun v40 e40 l40 u40 => ?_)
          try simp only [zuI_1, zuI_2, zuJ_1, zuJ_2, zuJ_3, zuP_1, zuP_2, zuP_3, zuC_1, zuC_2, reduceIte, Nat.reduceEqDiff, false_and, and_false, true_and, and_true, and_self, or_true, true_or, or_false, false_or] at e40
          refine zs_iald (r := 2077) (pc := 43) C dX9_bind_43 a_77 (by decide) (by omega) rfl (r_2077 _) (fun v43 e43 l43 u43 => ?_)
          try simp only [zuI_1, zuI_2, zuJ_1, zuJ_2, zuJ_3, zuP_1, zuP_2, zuP_3, zuC_1, zuC_2, reduceIte, Nat.reduceEqDiff, false_and, and_false, true_and, and_true, and_self, or_true, true_or, or_false, false_or] at e43
          have w43 : v43 = v17 := by rw [w17, e43, show v40.toNat = (G1.1 1042 w 0 - 1).toNat by omega]
          refine zs_istore_n (pc := 44) C dX9_bind_44 (by decide) ?_
          dsimp only [zset, zclr, znone]
          refine zs_iload_n (pc := 45) C dX9_bind_45 rfl ?_
          refine zs_iconst (pc := 46) C dX9_bind_46 (by decide) ?_
          refine zs_icmp_ne (tgt := 54) (pc := 47) C dX9_bind_47 (by decide) (fun h47 => ?_) (fun h47 => ?_)
          · skip
            refine zs_aload_n (pc := 54) C dX9_bind_54 rfl ?_
            refine zVi0 (pc := 55) C dX9_bind_55 v_X9_320 (c_X9_dropHeld hX (by first | omega | (simp only [zuI_1, zuI_2, zuJ_1, zuJ_2, zuJ_3, zuP_1, zuP_2, zuP_3, zuC_1, zuC_2, reduceIte, Nat.reduceEqDiff, false_and, and_false, true_and, and_true, and_self, or_true, true_or, or_false, false_or]; omega))) (by decide) (by decide) ⟨Nat.zero_le _, Nat.zero_le _⟩ (Nat.le_of_ble_eq_true rfl) (fun x55 G55 l55 u55 hp55 => ?_)
            obtain ⟨hz55, hq55⟩ := hp55
            try simp only [zuI_1, zuI_2, zuJ_1, zuJ_2, zuJ_3, zuP_1, zuP_2, zuP_3, zuC_1, zuC_2, reduceIte, Nat.reduceEqDiff, false_and, and_false, true_and, and_true, and_self, or_true, true_or, or_false, false_or] at hq55
            have tr55_1042 := zsm_at hz55 1042 w 0 (by decide)
            try simp only [zuI_1, zuI_2, zuJ_1, zuJ_2, zuJ_3, zuP_1, zuP_2, zuP_3, zuC_1, zuC_2, reduceIte, Nat.reduceEqDiff, false_and, and_false, true_and, and_true, and_self, or_true, true_or, or_false, false_or] at tr55_1042
            have tr55_1044 := zsm_at hz55 1044 w 0 (by decide)
            try simp only [zuI_1, zuI_2, zuJ_1, zuJ_2, zuJ_3, zuP_1, zuP_2, zuP_3, zuC_1, zuC_2, reduceIte, Nat.reduceEqDiff, false_and, and_false, true_and, and_true, and_self, or_true, true_or, or_false, false_or] at tr55_1044
            have tr55_1045 := zsm_at hz55 1045 w 0 (by decide)
            try simp only [zuI_1, zuI_2, zuJ_1, zuJ_2, zuJ_3, zuP_1, zuP_2, zuP_3, zuC_1, zuC_2, reduceIte, Nat.reduceEqDiff, false_and, and_false, true_and, and_true, and_self, or_true, true_or, or_false, false_or] at tr55_1045
            have tr55_1046 := zsm_at hz55 1046 w 0 (by decide)
            try simp only [zuI_1, zuI_2, zuJ_1, zuJ_2, zuJ_3, zuP_1, zuP_2, zuP_3, zuC_1, zuC_2, reduceIte, Nat.reduceEqDiff, false_and, and_false, true_and, and_true, and_self, or_true, true_or, or_false, false_or] at tr55_1046
            have tr55_1021 := zsm_at hz55 1021 w 0 (by decide)
            try simp only [zuI_1, zuI_2, zuJ_1, zuJ_2, zuJ_3, zuP_1, zuP_2, zuP_3, zuC_1, zuC_2, reduceIte, Nat.reduceEqDiff, false_and, and_false, true_and, and_true, and_self, or_true, true_or, or_false, false_or] at tr55_1021
            have tr55_1007 := zsm_at hz55 1007 w 0 (by decide)
            try simp only [zuI_1, zuI_2, zuJ_1, zuJ_2, zuJ_3, zuP_1, zuP_2, zuP_3, zuC_1, zuC_2, reduceIte, Nat.reduceEqDiff, false_and, and_false, true_and, and_true, and_self, or_true, true_or, or_false, false_or] at tr55_1007
            have tr55_1010 := zsm_at hz55 1010 w 0 (by decide)
            try simp only [zuI_1, zuI_2, zuJ_1, zuJ_2, zuJ_3, zuP_1, zuP_2, zuP_3, zuC_1, zuC_2, reduceIte, Nat.reduceEqDiff, false_and, and_false, true_and, and_true, and_self, or_true, true_or, or_false, false_or] at tr55_1010
            have tr55_1006 := zsm_at hz55 1006 w 0 (by decide)
            try simp only [zuI_1, zuI_2, zuJ_1, zuJ_2, zuJ_3, zuP_1, zuP_2, zuP_3, zuC_1, zuC_2, reduceIte, Nat.reduceEqDiff, false_and, and_false, true_and, and_true, and_self, or_true, true_or, or_false, false_or] at tr55_1006
            have tr55_1008 := zsm_at hz55 1008 w 0 (by decide)
            try simp only [zuI_1, zuI_2, zuJ_1, zuJ_2, zuJ_3, zuP_1, zuP_2, zuP_3, zuC_1, zuC_2, reduceIte, Nat.reduceEqDiff, false_and, and_false, true_and, and_true, and_self, or_true, true_or, or_false, false_or] at tr55_1008
            have tr55_1009 := zsm_at hz55 1009 w 0 (by decide)
            try simp only [zuI_1, zuI_2, zuJ_1, zuJ_2, zuJ_3, zuP_1, zuP_2, zuP_3, zuC_1, zuC_2, reduceIte, Nat.reduceEqDiff, false_and, and_false, true_and, and_true, and_self, or_true, true_or, or_false, false_or] at tr55_1009
            refine zs_istore_n (pc := 58) C dX9_bind_58 (by decide) ?_
            dsimp only [zset, zclr, znone]
            refine zs_aload_n (pc := 59) C dX9_bind_59 rfl ?_
            refine zVi0 (pc := 60) C dX9_bind_60 v_X9_320 (c_X9_dropHeld hX (by omega)) (by decide) (by decide) ⟨Nat.zero_le _, Nat.zero_le _⟩ (Nat.le_of_ble_eq_true rfl) (fun x60 G60 l60 u60 hp60 => ?_)
            obtain ⟨hz60, hq60⟩ := hp60
            have tr60_1042 := zsm_at hz60 1042 w 0 (by decide)
            try simp only [zuI_1, zuI_2, zuJ_1, zuJ_2, zuJ_3, zuP_1, zuP_2, zuP_3, zuC_1, zuC_2, reduceIte, Nat.reduceEqDiff, false_and, and_false, true_and, and_true, and_self, or_true, true_or, or_false, false_or] at tr60_1042
            have tr60_1044 := zsm_at hz60 1044 w 0 (by decide)
            try simp only [zuI_1, zuI_2, zuJ_1, zuJ_2, zuJ_3, zuP_1, zuP_2, zuP_3, zuC_1, zuC_2, reduceIte, Nat.reduceEqDiff, false_and, and_false, true_and, and_true, and_self, or_true, true_or, or_false, false_or] at tr60_1044
            have tr60_1045 := zsm_at hz60 1045 w 0 (by decide)
            try simp only [zuI_1, zuI_2, zuJ_1, zuJ_2, zuJ_3, zuP_1, zuP_2, zuP_3, zuC_1, zuC_2, reduceIte, Nat.reduceEqDiff, false_and, and_false, true_and, and_true, and_self, or_true, true_or, or_false, false_or] at tr60_1045
            have tr60_1046 := zsm_at hz60 1046 w 0 (by decide)
            try simp only [zuI_1, zuI_2, zuJ_1, zuJ_2, zuJ_3, zuP_1, zuP_2, zuP_3, zuC_1, zuC_2, reduceIte, Nat.reduceEqDiff, false_and, and_false, true_and, and_true, and_self, or_true, true_or, or_false, false_or] at tr60_1046
            have tr60_1021 := zsm_at hz60 1021 w 0 (by decide)
            try simp only [zuI_1, zuI_2, zuJ_1, zuJ_2, zuJ_3, zuP_1, zuP_2, zuP_3, zuC_1, zuC_2, reduceIte, Nat.reduceEqDiff, false_and, and_false, true_and, and_true, and_self, or_true, true_or, or_false, false_or] at tr60_1021
            have tr60_1007 := zsm_at hz60 1007 w 0 (by decide)
            try simp only [zuI_1, zuI_2, zuJ_1, zuJ_2, zuJ_3, zuP_1, zuP_2, zuP_3, zuC_1, zuC_2, reduceIte, Nat.reduceEqDiff, false_and, and_false, true_and, and_true, and_self, or_true, true_or, or_false, false_or] at tr60_1007
            have tr60_1010 := zsm_at hz60 1010 w 0 (by decide)
            try simp only [zuI_1, zuI_2, zuJ_1, zuJ_2, zuJ_3, zuP_1, zuP_2, zuP_3, zuC_1, zuC_2, reduceIte, Nat.reduceEqDiff, false_and, and_false, true_and, and_true, and_self, or_true, true_or, or_false, false_or] at tr60_1010
            have tr60_1006 := zsm_at hz60 1006 w 0 (by decide)
            try simp only [zuI_1, zuI_2, zuJ_1, zuJ_2, zuJ_3, zuP_1, zuP_2, zuP_3, zuC_1, zuC_2, reduceIte, Nat.reduceEqDiff, false_and, and_false, true_and, and_true, and_self, or_true, true_or, or_false, false_or] at tr60_1006
            have tr60_1008 := zsm_at hz60 1008 w 0 (by decide)
            try simp only [zuI_1, zuI_2, zuJ_1, zuJ_2, zuJ_3, zuP_1, zuP_2, zuP_3, zuC_1, zuC_2, reduceIte, Nat.reduceEqDiff, false_and, and_false, true_and, and_true, and_self, or_true, true_or, or_false, false_or] at tr60_1008
            have tr60_1009 := zsm_at hz60 1009 w 0 (by decide)
            try simp only [zuI_1, zuI_2, zuJ_1, zuJ_2, zuJ_3, zuP_1, zuP_2, zuP_3, zuC_1, zuC_2, reduceIte, Nat.reduceEqDiff, false_and, and_false, true_and, and_true, and_self, or_true, true_or, or_false, false_or] at tr60_1009
            refine zs_istore (pc := 63) C dX9_bind_63 (by decide) ?_
            dsimp only [zset, zclr, znone]
            refine zs_aload_n (pc := 65) C dX9_bind_65 rfl ?_
            refine zs_iload_n (pc := 66) C dX9_bind_66 rfl ?_
            refine zs_iload (pc := 67) C dX9_bind_67 rfl ?_
            refine zs_iload_n (pc := 69) C dX9_bind_69 rfl ?_
            refine zVv3 (pc := 70) C dX9_bind_70 v_X9_324 (c_X9_grown hX (by repeat (first | assumption | refine MI_I (by decide) ?_ | refine MI_J ?_ | refine MI_sm (by assumption) (by decide) ?_ | refine MI_sn (by assumption) (by decide) ?_)) (by first | omega | (simp only [zuI_1, zuI_2, zuJ_1, zuJ_2, zuJ_3, zuP_1, zuP_2, zuP_3, zuC_1, zuC_2, reduceIte, Nat.reduceEqDiff, false_and, and_false, true_and, and_true, and_self, or_true, true_or, or_false, false_or]; omega)) (by first | omega | (simp only [zuI_1, zuI_2, zuJ_1, zuJ_2, zuJ_3, zuP_1, zuP_2, zuP_3, zuC_1, zuC_2, reduceIte, Nat.reduceEqDiff, false_and, and_false, true_and, and_true, and_self, or_true, true_or, or_false, false_or]; omega)) (by first | omega | (simp only [zuI_1, zuI_2, zuJ_1, zuJ_2, zuJ_3, zuP_1, zuP_2, zuP_3, zuC_1, zuC_2, reduceIte, Nat.reduceEqDiff, false_and, and_false, true_and, and_true, and_self, or_true, true_or, or_false, false_or]; omega)) ⟨fun q => by omega, fun q => by omega, fun q => by omega⟩ (by first | omega | (simp only [zuI_1, zuI_2, zuJ_1, zuJ_2, zuJ_3, zuP_1, zuP_2, zuP_3, zuC_1, zuC_2, reduceIte, Nat.reduceEqDiff, false_and, and_false, true_and, and_true, and_self, or_true, true_or, or_false, false_or]; omega))) (by decide) (by decide) ⟨Nat.zero_le _, Nat.zero_le _⟩ (Nat.le_of_ble_eq_true rfl) (fun G70 hp70 => ?_)
            obtain ⟨hz70, hq70⟩ := hp70
            have tr70_1042 := zsm_at hz70 1042 w 0 (by decide)
            try simp only [zuI_1, zuI_2, zuJ_1, zuJ_2, zuJ_3, zuP_1, zuP_2, zuP_3, zuC_1, zuC_2, reduceIte, Nat.reduceEqDiff, false_and, and_false, true_and, and_true, and_self, or_true, true_or, or_false, false_or] at tr70_1042
            have tr70_1044 := zsm_at hz70 1044 w 0 (by decide)
            try simp only [zuI_1, zuI_2, zuJ_1, zuJ_2, zuJ_3, zuP_1, zuP_2, zuP_3, zuC_1, zuC_2, reduceIte, Nat.reduceEqDiff, false_and, and_false, true_and, and_true, and_self, or_true, true_or, or_false, false_or] at tr70_1044
            have tr70_1045 := zsm_at hz70 1045 w 0 (by decide)
            try simp only [zuI_1, zuI_2, zuJ_1, zuJ_2, zuJ_3, zuP_1, zuP_2, zuP_3, zuC_1, zuC_2, reduceIte, Nat.reduceEqDiff, false_and, and_false, true_and, and_true, and_self, or_true, true_or, or_false, false_or] at tr70_1045
            have tr70_1046 := zsm_at hz70 1046 w 0 (by decide)
            try simp only [zuI_1, zuI_2, zuJ_1, zuJ_2, zuJ_3, zuP_1, zuP_2, zuP_3, zuC_1, zuC_2, reduceIte, Nat.reduceEqDiff, false_and, and_false, true_and, and_true, and_self, or_true, true_or, or_false, false_or] at tr70_1046
            have tr70_1007 := zsm_at hz70 1007 w 0 (by decide)
            try simp only [zuI_1, zuI_2, zuJ_1, zuJ_2, zuJ_3, zuP_1, zuP_2, zuP_3, zuC_1, zuC_2, reduceIte, Nat.reduceEqDiff, false_and, and_false, true_and, and_true, and_self, or_true, true_or, or_false, false_or] at tr70_1007
            have tr70_1010 := zsm_at hz70 1010 w 0 (by decide)
            try simp only [zuI_1, zuI_2, zuJ_1, zuJ_2, zuJ_3, zuP_1, zuP_2, zuP_3, zuC_1, zuC_2, reduceIte, Nat.reduceEqDiff, false_and, and_false, true_and, and_true, and_self, or_true, true_or, or_false, false_or] at tr70_1010
            have tr70_1006 := zsm_at hz70 1006 w 0 (by decide)
            try simp only [zuI_1, zuI_2, zuJ_1, zuJ_2, zuJ_3, zuP_1, zuP_2, zuP_3, zuC_1, zuC_2, reduceIte, Nat.reduceEqDiff, false_and, and_false, true_and, and_true, and_self, or_true, true_or, or_false, false_or] at tr70_1006
            have tr70_1008 := zsm_at hz70 1008 w 0 (by decide)
            try simp only [zuI_1, zuI_2, zuJ_1, zuJ_2, zuJ_3, zuP_1, zuP_2, zuP_3, zuC_1, zuC_2, reduceIte, Nat.reduceEqDiff, false_and, and_false, true_and, and_true, and_self, or_true, true_or, or_false, false_or] at tr70_1008
            have tr70_1009 := zsm_at hz70 1009 w 0 (by decide)
            try simp only [zuI_1, zuI_2, zuJ_1, zuJ_2, zuJ_3, zuP_1, zuP_2, zuP_3, zuC_1, zuC_2, reduceIte, Nat.reduceEqDiff, false_and, and_false, true_and, and_true, and_self, or_true, true_or, or_false, false_or] at tr70_1009
            have e77 : G70.1 2077 = G1.1 2077 := by rw [hz70.1 2077 (by decide), hz60.1 2077 (by decide)]; first | rw [hz55.1 2077 (by decide), zuI_ne (show (2077 : Nat) ≠ 1042 by decide)] | rw [zuI_ne (show (2077 : Nat) ≠ 1042 by decide)]
            have e42 : G70.1 1042 w 0 = G1.1 1042 w 0 - 1 := by omega
            have hPI : PI Γ w G70 := by
              unfold PI
              rw [e77, e42]
              exact ⟨by omega, by omega, by omega, fun q => by omega⟩
            have hMI := hq70.1
            refine zs_goto (tgt := 0) (pc := 73) C dX9_bind_73 (by decide) ?_
            exact zs_wk (ih0 _ (by repeat (first | exact zsm_rf | assumption | refine zsm_C (by decide) ?_ | refine zsm_I (by decide) ?_ | refine zsm_J ?_ | refine zsm_c (by assumption) (by decide) ?_)) hMI hPI (by first | omega | (simp only [zuI_1, zuI_2, zuJ_1, zuJ_2, zuJ_3, zuP_1, zuP_2, zuP_3, zuC_1, zuC_2, reduceIte, Nat.reduceEqDiff, false_and, and_false, true_and, and_true, and_self, or_true, true_or, or_false, false_or]; omega))) (zwk_s rfl (zwk_s rfl (zwk_n (zwk_n (zwk_n zwk_0)))))
          · skip
            refine zs_iconst (pc := 50) C dX9_bind_50 (by decide) ?_
            refine zs_goto (tgt := 58) (pc := 51) C dX9_bind_51 (by decide) ?_
            refine zs_istore_n (pc := 58) C dX9_bind_58 (by decide) ?_
            dsimp only [zset, zclr, znone]
            refine zs_aload_n (pc := 59) C dX9_bind_59 rfl ?_
            refine zVi0 (pc := 60) C dX9_bind_60 v_X9_320 (c_X9_dropHeld hX (by first | omega | (simp only [zuI_1, zuI_2, zuJ_1, zuJ_2, zuJ_3, zuP_1, zuP_2, zuP_3, zuC_1, zuC_2, reduceIte, Nat.reduceEqDiff, false_and, and_false, true_and, and_true, and_self, or_true, true_or, or_false, false_or]; omega))) (by decide) (by decide) ⟨Nat.zero_le _, Nat.zero_le _⟩ (Nat.le_of_ble_eq_true rfl) (fun x60 G60 l60 u60 hp60 => ?_)
            obtain ⟨hz60, hq60⟩ := hp60
            try simp only [zuI_1, zuI_2, zuJ_1, zuJ_2, zuJ_3, zuP_1, zuP_2, zuP_3, zuC_1, zuC_2, reduceIte, Nat.reduceEqDiff, false_and, and_false, true_and, and_true, and_self, or_true, true_or, or_false, false_or] at hq60
            have tr60_1042 := zsm_at hz60 1042 w 0 (by decide)
            try simp only [zuI_1, zuI_2, zuJ_1, zuJ_2, zuJ_3, zuP_1, zuP_2, zuP_3, zuC_1, zuC_2, reduceIte, Nat.reduceEqDiff, false_and, and_false, true_and, and_true, and_self, or_true, true_or, or_false, false_or] at tr60_1042
            have tr60_1044 := zsm_at hz60 1044 w 0 (by decide)
            try simp only [zuI_1, zuI_2, zuJ_1, zuJ_2, zuJ_3, zuP_1, zuP_2, zuP_3, zuC_1, zuC_2, reduceIte, Nat.reduceEqDiff, false_and, and_false, true_and, and_true, and_self, or_true, true_or, or_false, false_or] at tr60_1044
            have tr60_1045 := zsm_at hz60 1045 w 0 (by decide)
            try simp only [zuI_1, zuI_2, zuJ_1, zuJ_2, zuJ_3, zuP_1, zuP_2, zuP_3, zuC_1, zuC_2, reduceIte, Nat.reduceEqDiff, false_and, and_false, true_and, and_true, and_self, or_true, true_or, or_false, false_or] at tr60_1045
            have tr60_1046 := zsm_at hz60 1046 w 0 (by decide)
            try simp only [zuI_1, zuI_2, zuJ_1, zuJ_2, zuJ_3, zuP_1, zuP_2, zuP_3, zuC_1, zuC_2, reduceIte, Nat.reduceEqDiff, false_and, and_false, true_and, and_true, and_self, or_true, true_or, or_false, false_or] at tr60_1046
            have tr60_1021 := zsm_at hz60 1021 w 0 (by decide)
            try simp only [zuI_1, zuI_2, zuJ_1, zuJ_2, zuJ_3, zuP_1, zuP_2, zuP_3, zuC_1, zuC_2, reduceIte, Nat.reduceEqDiff, false_and, and_false, true_and, and_true, and_self, or_true, true_or, or_false, false_or] at tr60_1021
            have tr60_1007 := zsm_at hz60 1007 w 0 (by decide)
            try simp only [zuI_1, zuI_2, zuJ_1, zuJ_2, zuJ_3, zuP_1, zuP_2, zuP_3, zuC_1, zuC_2, reduceIte, Nat.reduceEqDiff, false_and, and_false, true_and, and_true, and_self, or_true, true_or, or_false, false_or] at tr60_1007
            have tr60_1010 := zsm_at hz60 1010 w 0 (by decide)
            try simp only [zuI_1, zuI_2, zuJ_1, zuJ_2, zuJ_3, zuP_1, zuP_2, zuP_3, zuC_1, zuC_2, reduceIte, Nat.reduceEqDiff, false_and, and_false, true_and, and_true, and_self, or_true, true_or, or_false, false_or] at tr60_1010
            have tr60_1006 := zsm_at hz60 1006 w 0 (by decide)
            try simp only [zuI_1, zuI_2, zuJ_1, zuJ_2, zuJ_3, zuP_1, zuP_2, zuP_3, zuC_1, zuC_2, reduceIte, Nat.reduceEqDiff, false_and, and_false, true_and, and_true, and_self, or_true, true_or, or_false, false_or] at tr60_1006
            have tr60_1008 := zsm_at hz60 1008 w 0 (by decide)
            try simp only [zuI_1, zuI_2, zuJ_1, zuJ_2, zuJ_3, zuP_1, zuP_2, zuP_3, zuC_1, zuC_2, reduceIte, Nat.reduceEqDiff, false_and, and_false, true_and, and_true, and_self, or_true, true_or, or_false, false_or] at tr60_1008
            have tr60_1009 := zsm_at hz60 1009 w 0 (by decide)
            try simp only [zuI_1, zuI_2, zuJ_1, zuJ_2, zuJ_3, zuP_1, zuP_2, zuP_3, zuC_1, zuC_2, reduceIte, Nat.reduceEqDiff, false_and, and_false, true_and, and_true, and_self, or_true, true_or, or_false, false_or] at tr60_1009
            refine zs_istore (pc := 63) C dX9_bind_63 (by decide) ?_
            dsimp only [zset, zclr, znone]
            refine zs_aload_n (pc := 65) C dX9_bind_65 rfl ?_
            refine zs_iload_n (pc := 66) C dX9_bind_66 rfl ?_
            refine zs_iload (pc := 67) C dX9_bind_67 rfl ?_
            refine zs_iload_n (pc := 69) C dX9_bind_69 rfl ?_
            refine zVv3 (pc := 70) C dX9_bind_70 v_X9_324 (c_X9_grown hX (by repeat (first | assumption | refine MI_I (by decide) ?_ | refine MI_J ?_ | refine MI_sm (by assumption) (by decide) ?_ | refine MI_sn (by assumption) (by decide) ?_)) (by first | omega | (simp only [zuI_1, zuI_2, zuJ_1, zuJ_2, zuJ_3, zuP_1, zuP_2, zuP_3, zuC_1, zuC_2, reduceIte, Nat.reduceEqDiff, false_and, and_false, true_and, and_true, and_self, or_true, true_or, or_false, false_or]; omega)) (by first | omega | (simp only [zuI_1, zuI_2, zuJ_1, zuJ_2, zuJ_3, zuP_1, zuP_2, zuP_3, zuC_1, zuC_2, reduceIte, Nat.reduceEqDiff, false_and, and_false, true_and, and_true, and_self, or_true, true_or, or_false, false_or]; omega)) (by first | omega | (simp only [zuI_1, zuI_2, zuJ_1, zuJ_2, zuJ_3, zuP_1, zuP_2, zuP_3, zuC_1, zuC_2, reduceIte, Nat.reduceEqDiff, false_and, and_false, true_and, and_true, and_self, or_true, true_or, or_false, false_or]; omega)) ⟨fun q => by omega, fun q => by omega, fun q => by omega⟩ (by first | omega | (simp only [zuI_1, zuI_2, zuJ_1, zuJ_2, zuJ_3, zuP_1, zuP_2, zuP_3, zuC_1, zuC_2, reduceIte, Nat.reduceEqDiff, false_and, and_false, true_and, and_true, and_self, or_true, true_or, or_false, false_or]; omega))) (by decide) (by decide) ⟨Nat.zero_le _, Nat.zero_le _⟩ (Nat.le_of_ble_eq_true rfl) (fun G70 hp70 => ?_)
            obtain ⟨hz70, hq70⟩ := hp70
            have tr70_1042 := zsm_at hz70 1042 w 0 (by decide)
            try simp only [zuI_1, zuI_2, zuJ_1, zuJ_2, zuJ_3, zuP_1, zuP_2, zuP_3, zuC_1, zuC_2, reduceIte, Nat.reduceEqDiff, false_and, and_false, true_and, and_true, and_self, or_true, true_or, or_false, false_or] at tr70_1042
            have tr70_1044 := zsm_at hz70 1044 w 0 (by decide)
            try simp only [zuI_1, zuI_2, zuJ_1, zuJ_2, zuJ_3, zuP_1, zuP_2, zuP_3, zuC_1, zuC_2, reduceIte, Nat.reduceEqDiff, false_and, and_false, true_and, and_true, and_self, or_true, true_or, or_false, false_or] at tr70_1044
            have tr70_1045 := zsm_at hz70 1045 w 0 (by decide)
            try simp only [zuI_1, zuI_2, zuJ_1, zuJ_2, zuJ_3, zuP_1, zuP_2, zuP_3, zuC_1, zuC_2, reduceIte, Nat.reduceEqDiff, false_and, and_false, true_and, and_true, and_self, or_true, true_or, or_false, false_or] at tr70_1045
            have tr70_1046 := zsm_at hz70 1046 w 0 (by decide)
            try simp only [zuI_1, zuI_2, zuJ_1, zuJ_2, zuJ_3, zuP_1, zuP_2, zuP_3, zuC_1, zuC_2, reduceIte, Nat.reduceEqDiff, false_and, and_false, true_and, and_true, and_self, or_true, true_or, or_false, false_or] at tr70_1046
            have tr70_1007 := zsm_at hz70 1007 w 0 (by decide)
            try simp only [zuI_1, zuI_2, zuJ_1, zuJ_2, zuJ_3, zuP_1, zuP_2, zuP_3, zuC_1, zuC_2, reduceIte, Nat.reduceEqDiff, false_and, and_false, true_and, and_true, and_self, or_true, true_or, or_false, false_or] at tr70_1007
            have tr70_1010 := zsm_at hz70 1010 w 0 (by decide)
            try simp only [zuI_1, zuI_2, zuJ_1, zuJ_2, zuJ_3, zuP_1, zuP_2, zuP_3, zuC_1, zuC_2, reduceIte, Nat.reduceEqDiff, false_and, and_false, true_and, and_true, and_self, or_true, true_or, or_false, false_or] at tr70_1010
            have tr70_1006 := zsm_at hz70 1006 w 0 (by decide)
            try simp only [zuI_1, zuI_2, zuJ_1, zuJ_2, zuJ_3, zuP_1, zuP_2, zuP_3, zuC_1, zuC_2, reduceIte, Nat.reduceEqDiff, false_and, and_false, true_and, and_true, and_self, or_true, true_or, or_false, false_or] at tr70_1006
            have tr70_1008 := zsm_at hz70 1008 w 0 (by decide)
            try simp only [zuI_1, zuI_2, zuJ_1, zuJ_2, zuJ_3, zuP_1, zuP_2, zuP_3, zuC_1, zuC_2, reduceIte, Nat.reduceEqDiff, false_and, and_false, true_and, and_true, and_self, or_true, true_or, or_false, false_or] at tr70_1008
            have tr70_1009 := zsm_at hz70 1009 w 0 (by decide)
            try simp only [zuI_1, zuI_2, zuJ_1, zuJ_2, zuJ_3, zuP_1, zuP_2, zuP_3, zuC_1, zuC_2, reduceIte, Nat.reduceEqDiff, false_and, and_false, true_and, and_true, and_self, or_true, true_or, or_false, false_or] at tr70_1009
            have e77 : G70.1 2077 = G1.1 2077 := by rw [hz70.1 2077 (by decide), hz60.1 2077 (by decide)]; first | rw [hz55.1 2077 (by decide), zuI_ne (show (2077 : Nat) ≠ 1042 by decide)] | rw [zuI_ne (show (2077 : Nat) ≠ 1042 by decide)]
            have e42 : G70.1 1042 w 0 = G1.1 1042 w 0 - 1 := by omega
            have hPI : PI Γ w G70 := by
              unfold PI
              rw [e77, e42]
              exact ⟨by omega, by omega, by omega, fun q => by omega⟩
            have hMI := hq70.1
            refine zs_goto (tgt := 0) (pc := 73) C dX9_bind_73 (by decide) ?_
            exact zs_wk (ih0 _ (by repeat (first | exact zsm_rf | assumption | refine zsm_C (by decide) ?_ | refine zsm_I (by decide) ?_ | refine zsm_J ?_ | refine zsm_c (by assumption) (by decide) ?_)) hMI hPI (by first | omega | (simp only [zuI_1, zuI_2, zuJ_1, zuJ_2, zuJ_3, zuP_1, zuP_2, zuP_3, zuC_1, zuC_2, reduceIte, Nat.reduceEqDiff, false_and, and_false, true_and, and_true, and_self, or_true, true_or, or_false, false_or]; omega))) (zwk_s rfl (zwk_s rfl (zwk_n (zwk_n (zwk_n zwk_0)))))
  exact zs_wk (L0 _ _ (by repeat (first | exact zsm_rf | assumption | refine zsm_C (by decide) ?_ | refine zsm_I (by decide) ?_ | refine zsm_J ?_ | refine zsm_c (by assumption) (by decide) ?_)) (by repeat (first | assumption | refine MI_I (by decide) ?_ | refine MI_J ?_ | refine MI_sm (by assumption) (by decide) ?_ | refine MI_sn (by assumption) (by decide) ?_)) (by repeat (first | assumption | refine PI_I (by decide) ?_ | refine PI_sm (by assumption) (by decide) ?_)) (Nat.lt_succ_self _)) (zwk_s rfl (zwk_s rfl (zwk_n (zwk_n (zwk_n zwk_0)))))

set_option maxHeartbeats 4000000 in
set_option maxRecDepth 100000 in
theorem c_X9_leafRead {l : Launch} {Γ : zΓ} {G : zH} {w : Nat}  (hX : zXs Γ) (hM : MI Γ w G)(hT : TI w G) (hQ : PI Γ w G) (hw : G.1 1046 w 0 = 1) : zMet l Γ yX9_leafRead cX9_leafRead 2 (some .boolean) 2 [zr 10 w] G (zpi (fun x G' => zsm [1007, 1008, 1009, 1010, 1004, 1005, 2074, 2075, 2076, 2078, 1043, 1021, 2077, 1042, 1044, 1045, 1046, 1047] G G' ∧ ((x = 0 ∨ x = 1) ∧ MI Γ w G' ∧ (x = 1 → TI w G' ∧ PI Γ w G' ∧ G.1 1010 w 0 < G'.1 1010 w 0)))) := by
  have t1 := hT.1
  have t3 := hT.2.2.1
  have t5 := hT.2.2.2.1
  have t6 := hT.2.2.2.2.1
  have t7 := hT.2.2.2.2.2
  have p1 := hQ.1
  have p2 := hQ.2.1
  have p3 := hQ.2.2.1
  have p4 := hQ.2.2.2
  have k3 := c3_le (G.1 2077 (Γ.2.1 w 40)) (G.1 1042 w 0).toNat
  have k0 := c0_le (G.1 2077 (Γ.2.1 w 40)) (G.1 1042 w 0).toNat
  refine zMet_of RX9 hX (by decide) rfl (Nat.le_of_ble_eq_true rfl) ?_
  intro p e s m args below meth c C hr hlk
  show Z p l e (zrm 2) s m args below meth c Γ 2 0 0 (MQ below (zQc Γ (zpi (fun x G' => zsm [1007, 1008, 1009, 1010, 1004, 1005, 2074, 2075, 2076, 2078, 1043, 1021, 2077, 1042, 1044, 1045, 1046, 1047] G G' ∧ ((x = 0 ∨ x = 1) ∧ MI Γ w G' ∧ (x = 1 → TI w G' ∧ PI Γ w G' ∧ G.1 1010 w 0 < G'.1 1010 w 0))))) args s 0 0 (zA Γ)) 0 [some (zr 10 w), none] [] G
  refine zs_good (fun hGdg => ?_)
  have hbg_1042 := hGdg.1 1042 w 0
  rw [r_1042] at hbg_1042
  have hbg_1044 := hGdg.1 1044 w 0
  rw [r_1044] at hbg_1044
  have hbg_1045 := hGdg.1 1045 w 0
  rw [r_1045] at hbg_1045
  have hbg_1021 := hGdg.1 1021 w 0
  rw [r_1021] at hbg_1021
  refine zs_aload_n (pc := 0) C dX9_leafRead_0 rfl ?_
  refine zs_bipush (pc := 1) C dX9_leafRead_1 (by decide) (by decide) ?_
  refine zVip1 (pc := 3) C dX9_leafRead_3 v_X9_233 (c_X9_isSign hX ) (by decide) (by decide) ⟨Nat.zero_le _, Nat.zero_le _⟩ (Nat.le_of_ble_eq_true rfl) (fun x3 l3 u3 hp3 => ?_)
  have hq3 := hp3
  refine zs_if_eq (tgt := 50) (pc := 6) C dX9_leafRead_6 (by decide) (fun h6 => ?_) (fun h6 => ?_)
  · skip
    have J86 : ∀ (G0 : zH), (G0 = G) → Z p l e (zrm 2) s m args below meth c Γ 2 0 0 (MQ below (zQc Γ (zpi (fun x G' => zsm [1007, 1008, 1009, 1010, 1004, 1005, 2074, 2075, 2076, 2078, 1043, 1021, 2077, 1042, 1044, 1045, 1046, 1047] G G' ∧ ((x = 0 ∨ x = 1) ∧ MI Γ w G' ∧ (x = 1 → TI w G' ∧ PI Γ w G' ∧ G.1 1010 w 0 < G'.1 1010 w 0))))) args s 0 0 (zA Γ)) 86 [some (zr 10 w), none] [] G0 := by
      intro G0 h86_0
      rw [h86_0]
      refine zs_aload_n (pc := 86) C dX9_leafRead_86 rfl ?_
      refine zVip0 (pc := 87) C dX9_leafRead_87 v_X9_342 (c_X9_nameMet hX ) (by decide) (by decide) ⟨Nat.zero_le _, Nat.zero_le _⟩ (Nat.le_of_ble_eq_true rfl) (fun x87 l87 u87 hp87 => ?_)
      have hq87 := hp87
      refine zs_istore_n (pc := 90) C dX9_leafRead_90 (by decide) ?_
      dsimp only [zset, zclr, znone]
      have J129 : ∀ (x1 : Int), ((0 ≤ x1 ∧ x1 ≤ 6 ∧ G.1 1008 w 0 ≠ 0) ∨ (x1 < 0 ∧ G.1 1008 w 0 = 3 ∧ G.1 1009 w 0 ≤ 9999)) → Z p l e (zrm 2) s m args below meth c Γ 2 0 0 (MQ below (zQc Γ (zpi (fun x G' => zsm [1007, 1008, 1009, 1010, 1004, 1005, 2074, 2075, 2076, 2078, 1043, 1021, 2077, 1042, 1044, 1045, 1046, 1047] G G' ∧ ((x = 0 ∨ x = 1) ∧ MI Γ w G' ∧ (x = 1 → TI w G' ∧ PI Γ w G' ∧ G.1 1010 w 0 < G'.1 1010 w 0))))) args s 0 0 (zA Γ)) 129 [some (zr 10 w), some (zi x1)] [] G := by
        intro x1 h129_0
        refine zs_aload_n (pc := 129) C dX9_leafRead_129 rfl ?_
        refine zVi0 (pc := 130) C dX9_leafRead_130 v_X9_339 (c_X9_isCounted hX ) (by decide) (by decide) ⟨Nat.zero_le _, Nat.zero_le _⟩ (Nat.le_of_ble_eq_true rfl) (fun x130 G130 l130 u130 hp130 => ?_)
        obtain ⟨hz130, hq130⟩ := hp130
        have tr130_1042 := zsm_at hz130 1042 w 0 (by decide)
        try simp only [zuI_1, zuI_2, zuJ_1, zuJ_2, zuJ_3, zuP_1, zuP_2, zuP_3, zuC_1, zuC_2, reduceIte, Nat.reduceEqDiff, false_and, and_false, true_and, and_true, and_self, or_true, true_or, or_false, false_or] at tr130_1042
        have tr130_1043 := zsm_at hz130 1043 w 0 (by decide)
        try simp only [zuI_1, zuI_2, zuJ_1, zuJ_2, zuJ_3, zuP_1, zuP_2, zuP_3, zuC_1, zuC_2, reduceIte, Nat.reduceEqDiff, false_and, and_false, true_and, and_true, and_self, or_true, true_or, or_false, false_or] at tr130_1043
        have tr130_1044 := zsm_at hz130 1044 w 0 (by decide)
        try simp only [zuI_1, zuI_2, zuJ_1, zuJ_2, zuJ_3, zuP_1, zuP_2, zuP_3, zuC_1, zuC_2, reduceIte, Nat.reduceEqDiff, false_and, and_false, true_and, and_true, and_self, or_true, true_or, or_false, false_or] at tr130_1044
        have tr130_1046 := zsm_at hz130 1046 w 0 (by decide)
        try simp only [zuI_1, zuI_2, zuJ_1, zuJ_2, zuJ_3, zuP_1, zuP_2, zuP_3, zuC_1, zuC_2, reduceIte, Nat.reduceEqDiff, false_and, and_false, true_and, and_true, and_self, or_true, true_or, or_false, false_or] at tr130_1046
        have tr130_1021 := zsm_at hz130 1021 w 0 (by decide)
        try simp only [zuI_1, zuI_2, zuJ_1, zuJ_2, zuJ_3, zuP_1, zuP_2, zuP_3, zuC_1, zuC_2, reduceIte, Nat.reduceEqDiff, false_and, and_false, true_and, and_true, and_self, or_true, true_or, or_false, false_or] at tr130_1021
        have tr130_1007 := zsm_at hz130 1007 w 0 (by decide)
        try simp only [zuI_1, zuI_2, zuJ_1, zuJ_2, zuJ_3, zuP_1, zuP_2, zuP_3, zuC_1, zuC_2, reduceIte, Nat.reduceEqDiff, false_and, and_false, true_and, and_true, and_self, or_true, true_or, or_false, false_or] at tr130_1007
        have tr130_1010 := zsm_at hz130 1010 w 0 (by decide)
        try simp only [zuI_1, zuI_2, zuJ_1, zuJ_2, zuJ_3, zuP_1, zuP_2, zuP_3, zuC_1, zuC_2, reduceIte, Nat.reduceEqDiff, false_and, and_false, true_and, and_true, and_self, or_true, true_or, or_false, false_or] at tr130_1010
        have tr130_1006 := zsm_at hz130 1006 w 0 (by decide)
        try simp only [zuI_1, zuI_2, zuJ_1, zuJ_2, zuJ_3, zuP_1, zuP_2, zuP_3, zuC_1, zuC_2, reduceIte, Nat.reduceEqDiff, false_and, and_false, true_and, and_true, and_self, or_true, true_or, or_false, false_or] at tr130_1006
        have tr130_1008 := zsm_at hz130 1008 w 0 (by decide)
        try simp only [zuI_1, zuI_2, zuJ_1, zuJ_2, zuJ_3, zuP_1, zuP_2, zuP_3, zuC_1, zuC_2, reduceIte, Nat.reduceEqDiff, false_and, and_false, true_and, and_true, and_self, or_true, true_or, or_false, false_or] at tr130_1008
        have tr130_1009 := zsm_at hz130 1009 w 0 (by decide)
        try simp only [zuI_1, zuI_2, zuJ_1, zuJ_2, zuJ_3, zuP_1, zuP_2, zuP_3, zuC_1, zuC_2, reduceIte, Nat.reduceEqDiff, false_and, and_false, true_and, and_true, and_self, or_true, true_or, or_false, false_or] at tr130_1009
        refine zs_if_ne (tgt := 138) (pc := 133) C dX9_leafRead_133 (by decide) (fun h133 => ?_) (fun h133 => ?_)
        · skip
          refine zs_good (fun hGdh => ?_)
          have hbh_1045 := hGdh.1 1045 w 0
          rw [r_1045] at hbh_1045
          refine zs_aload_n (pc := 138) C dX9_leafRead_138 rfl ?_
          refine zs_iload_n (pc := 139) C dX9_leafRead_139 rfl ?_
          refine zs_if_lt (tgt := 147) (pc := 140) C dX9_leafRead_140 (by decide) (fun h140 => ?_) (fun h140 => ?_)
          · skip
            refine zs_iconst (pc := 147) C dX9_leafRead_147 (by decide) ?_
            refine zs_iload_n (pc := 148) C dX9_leafRead_148 rfl ?_
            refine zs_if_lt (tgt := 156) (pc := 149) C dX9_leafRead_149 (by decide) (fun h149 => ?_) (fun h149 => ?_)
            · skip
              refine zs_aload_n (pc := 156) C dX9_leafRead_156 rfl ?_
              refine zs_geti (r := 1009) (pc := 157) C dX9_leafRead_157 w_X9_207 f_10_9 rfl (r_1009 0) (fun v157 e157 l157 u157 => ?_)
              refine zs_iconst (pc := 160) C dX9_leafRead_160 (by decide) ?_
              refine zVv3 (pc := 161) C dX9_leafRead_161 v_X9_324 (c_X9_grown hX (by repeat (first | assumption | refine MI_I (by decide) ?_ | refine MI_J ?_ | refine MI_sm (by assumption) (by decide) ?_ | refine MI_sn (by assumption) (by decide) ?_)) (by first | omega | (simp only [zuI_1, zuI_2, zuJ_1, zuJ_2, zuJ_3, zuP_1, zuP_2, zuP_3, zuC_1, zuC_2, reduceIte, Nat.reduceEqDiff, false_and, and_false, true_and, and_true, and_self, or_true, true_or, or_false, false_or]; omega)) (by first | omega | (simp only [zuI_1, zuI_2, zuJ_1, zuJ_2, zuJ_3, zuP_1, zuP_2, zuP_3, zuC_1, zuC_2, reduceIte, Nat.reduceEqDiff, false_and, and_false, true_and, and_true, and_self, or_true, true_or, or_false, false_or]; omega)) (by first | omega | (simp only [zuI_1, zuI_2, zuJ_1, zuJ_2, zuJ_3, zuP_1, zuP_2, zuP_3, zuC_1, zuC_2, reduceIte, Nat.reduceEqDiff, false_and, and_false, true_and, and_true, and_self, or_true, true_or, or_false, false_or]; omega)) ⟨fun q => by omega, fun q => by omega, fun q => by omega⟩ (by first | omega | (simp only [zuI_1, zuI_2, zuJ_1, zuJ_2, zuJ_3, zuP_1, zuP_2, zuP_3, zuC_1, zuC_2, reduceIte, Nat.reduceEqDiff, false_and, and_false, true_and, and_true, and_self, or_true, true_or, or_false, false_or]; omega))) (by decide) (by decide) ⟨Nat.zero_le _, Nat.zero_le _⟩ (Nat.le_of_ble_eq_true rfl) (fun G161 hp161 => ?_)
              obtain ⟨hz161, hq161⟩ := hp161
              have tr161_1042 := zsm_at hz161 1042 w 0 (by decide)
              try simp only [zuI_1, zuI_2, zuJ_1, zuJ_2, zuJ_3, zuP_1, zuP_2, zuP_3, zuC_1, zuC_2, reduceIte, Nat.reduceEqDiff, false_and, and_false, true_and, and_true, and_self, or_true, true_or, or_false, false_or] at tr161_1042
              have tr161_1044 := zsm_at hz161 1044 w 0 (by decide)
              try simp only [zuI_1, zuI_2, zuJ_1, zuJ_2, zuJ_3, zuP_1, zuP_2, zuP_3, zuC_1, zuC_2, reduceIte, Nat.reduceEqDiff, false_and, and_false, true_and, and_true, and_self, or_true, true_or, or_false, false_or] at tr161_1044
              have tr161_1045 := zsm_at hz161 1045 w 0 (by decide)
              try simp only [zuI_1, zuI_2, zuJ_1, zuJ_2, zuJ_3, zuP_1, zuP_2, zuP_3, zuC_1, zuC_2, reduceIte, Nat.reduceEqDiff, false_and, and_false, true_and, and_true, and_self, or_true, true_or, or_false, false_or] at tr161_1045
              have tr161_1046 := zsm_at hz161 1046 w 0 (by decide)
              try simp only [zuI_1, zuI_2, zuJ_1, zuJ_2, zuJ_3, zuP_1, zuP_2, zuP_3, zuC_1, zuC_2, reduceIte, Nat.reduceEqDiff, false_and, and_false, true_and, and_true, and_self, or_true, true_or, or_false, false_or] at tr161_1046
              have tr161_1007 := zsm_at hz161 1007 w 0 (by decide)
              try simp only [zuI_1, zuI_2, zuJ_1, zuJ_2, zuJ_3, zuP_1, zuP_2, zuP_3, zuC_1, zuC_2, reduceIte, Nat.reduceEqDiff, false_and, and_false, true_and, and_true, and_self, or_true, true_or, or_false, false_or] at tr161_1007
              have tr161_1010 := zsm_at hz161 1010 w 0 (by decide)
              try simp only [zuI_1, zuI_2, zuJ_1, zuJ_2, zuJ_3, zuP_1, zuP_2, zuP_3, zuC_1, zuC_2, reduceIte, Nat.reduceEqDiff, false_and, and_false, true_and, and_true, and_self, or_true, true_or, or_false, false_or] at tr161_1010
              have tr161_1006 := zsm_at hz161 1006 w 0 (by decide)
              try simp only [zuI_1, zuI_2, zuJ_1, zuJ_2, zuJ_3, zuP_1, zuP_2, zuP_3, zuC_1, zuC_2, reduceIte, Nat.reduceEqDiff, false_and, and_false, true_and, and_true, and_self, or_true, true_or, or_false, false_or] at tr161_1006
              have tr161_1008 := zsm_at hz161 1008 w 0 (by decide)
              try simp only [zuI_1, zuI_2, zuJ_1, zuJ_2, zuJ_3, zuP_1, zuP_2, zuP_3, zuC_1, zuC_2, reduceIte, Nat.reduceEqDiff, false_and, and_false, true_and, and_true, and_self, or_true, true_or, or_false, false_or] at tr161_1008
              have tr161_1009 := zsm_at hz161 1009 w 0 (by decide)
              try simp only [zuI_1, zuI_2, zuJ_1, zuJ_2, zuJ_3, zuP_1, zuP_2, zuP_3, zuC_1, zuC_2, reduceIte, Nat.reduceEqDiff, false_and, and_false, true_and, and_true, and_self, or_true, true_or, or_false, false_or] at tr161_1009
              have hMI := hq161.1
              refine zs_aload_n (pc := 164) C dX9_leafRead_164 rfl ?_
              refine zs_iconst (pc := 165) C dX9_leafRead_165 (by decide) ?_
              refine zs_putz (r := 1046) (pc := 166) C dX9_leafRead_166 w_X9_345 f_10_46 rfl (r_1046 0) (by omega) (by omega) ?_
              refine zs_aload_n (pc := 169) C dX9_leafRead_169 rfl ?_
              refine zVv0 (pc := 170) C dX9_leafRead_170 v_X9_230 (c_X9_token hX (by first | omega | (simp only [zuI_1, zuI_2, zuJ_1, zuJ_2, zuJ_3, zuP_1, zuP_2, zuP_3, zuC_1, zuC_2, reduceIte, Nat.reduceEqDiff, false_and, and_false, true_and, and_true, and_self, or_true, true_or, or_false, false_or]; omega))) (by decide) (by decide) ⟨Nat.zero_le _, Nat.zero_le _⟩ (Nat.le_of_ble_eq_true rfl) (fun G170 hp170 => ?_)
              obtain ⟨hz170, hq170⟩ := hp170
              try simp only [zuI_1, zuI_2, zuJ_1, zuJ_2, zuJ_3, zuP_1, zuP_2, zuP_3, zuC_1, zuC_2, reduceIte, Nat.reduceEqDiff, false_and, and_false, true_and, and_true, and_self, or_true, true_or, or_false, false_or] at hq170
              have tr170_1042 := zsm_at hz170 1042 w 0 (by decide)
              try simp only [zuI_1, zuI_2, zuJ_1, zuJ_2, zuJ_3, zuP_1, zuP_2, zuP_3, zuC_1, zuC_2, reduceIte, Nat.reduceEqDiff, false_and, and_false, true_and, and_true, and_self, or_true, true_or, or_false, false_or] at tr170_1042
              have tr170_1043 := zsm_at hz170 1043 w 0 (by decide)
              try simp only [zuI_1, zuI_2, zuJ_1, zuJ_2, zuJ_3, zuP_1, zuP_2, zuP_3, zuC_1, zuC_2, reduceIte, Nat.reduceEqDiff, false_and, and_false, true_and, and_true, and_self, or_true, true_or, or_false, false_or] at tr170_1043
              have tr170_1044 := zsm_at hz170 1044 w 0 (by decide)
              try simp only [zuI_1, zuI_2, zuJ_1, zuJ_2, zuJ_3, zuP_1, zuP_2, zuP_3, zuC_1, zuC_2, reduceIte, Nat.reduceEqDiff, false_and, and_false, true_and, and_true, and_self, or_true, true_or, or_false, false_or] at tr170_1044
              have tr170_1045 := zsm_at hz170 1045 w 0 (by decide)
              try simp only [zuI_1, zuI_2, zuJ_1, zuJ_2, zuJ_3, zuP_1, zuP_2, zuP_3, zuC_1, zuC_2, reduceIte, Nat.reduceEqDiff, false_and, and_false, true_and, and_true, and_self, or_true, true_or, or_false, false_or] at tr170_1045
              have tr170_1046 := zsm_at hz170 1046 w 0 (by decide)
              try simp only [zuI_1, zuI_2, zuJ_1, zuJ_2, zuJ_3, zuP_1, zuP_2, zuP_3, zuC_1, zuC_2, reduceIte, Nat.reduceEqDiff, false_and, and_false, true_and, and_true, and_self, or_true, true_or, or_false, false_or] at tr170_1046
              have tr170_1021 := zsm_at hz170 1021 w 0 (by decide)
              try simp only [zuI_1, zuI_2, zuJ_1, zuJ_2, zuJ_3, zuP_1, zuP_2, zuP_3, zuC_1, zuC_2, reduceIte, Nat.reduceEqDiff, false_and, and_false, true_and, and_true, and_self, or_true, true_or, or_false, false_or] at tr170_1021
              have tr170_1006 := zsm_at hz170 1006 w 0 (by decide)
              try simp only [zuI_1, zuI_2, zuJ_1, zuJ_2, zuJ_3, zuP_1, zuP_2, zuP_3, zuC_1, zuC_2, reduceIte, Nat.reduceEqDiff, false_and, and_false, true_and, and_true, and_self, or_true, true_or, or_false, false_or] at tr170_1006
              have hTI := hq170.1
              have e77 : G170.1 2077 = G.1 2077 := by rw [hz170.1 2077 (by decide), zuI_ne (show (2077 : Nat) ≠ 1046 by decide), hz161.1 2077 (by decide), hz130.1 2077 (by decide)]
              have e42 : G170.1 1042 w 0 = G.1 1042 w 0 := by omega
              have hPI : PI Γ w G170 := by
                unfold PI
                rw [e77, e42]
                exact ⟨by omega, by omega, by omega, fun q => by omega⟩
              refine zs_iconst (pc := 173) C dX9_leafRead_173 (by decide) ?_
              exact zs_zret (pc := 174) C hr hlk dX9_leafRead_174 (by omega) ⟨by repeat (first | exact zsm_rf | assumption | refine zsm_C (by decide) ?_ | refine zsm_I (by decide) ?_ | refine zsm_J ?_ | refine zsm_c (by assumption) (by decide) ?_), ⟨by omega, (by repeat (first | assumption | refine MI_I (by decide) ?_ | refine MI_J ?_ | refine MI_sm (by assumption) (by decide) ?_ | refine MI_sn (by assumption) (by decide) ?_)), fun q => by first | (exfalso; omega) | exact ⟨hTI, hPI, by omega⟩⟩⟩
            · skip
              refine zs_iload_n (pc := 152) C dX9_leafRead_152 rfl ?_
              refine zs_goto (tgt := 160) (pc := 153) C dX9_leafRead_153 (by decide) ?_
              refine zs_iconst (pc := 160) C dX9_leafRead_160 (by decide) ?_
              refine zVv3 (pc := 161) C dX9_leafRead_161 v_X9_324 (c_X9_grown hX (by repeat (first | assumption | refine MI_I (by decide) ?_ | refine MI_J ?_ | refine MI_sm (by assumption) (by decide) ?_ | refine MI_sn (by assumption) (by decide) ?_)) (by first | omega | (simp only [zuI_1, zuI_2, zuJ_1, zuJ_2, zuJ_3, zuP_1, zuP_2, zuP_3, zuC_1, zuC_2, reduceIte, Nat.reduceEqDiff, false_and, and_false, true_and, and_true, and_self, or_true, true_or, or_false, false_or]; omega)) (by first | omega | (simp only [zuI_1, zuI_2, zuJ_1, zuJ_2, zuJ_3, zuP_1, zuP_2, zuP_3, zuC_1, zuC_2, reduceIte, Nat.reduceEqDiff, false_and, and_false, true_and, and_true, and_self, or_true, true_or, or_false, false_or]; omega)) (by first | omega | (simp only [zuI_1, zuI_2, zuJ_1, zuJ_2, zuJ_3, zuP_1, zuP_2, zuP_3, zuC_1, zuC_2, reduceIte, Nat.reduceEqDiff, false_and, and_false, true_and, and_true, and_self, or_true, true_or, or_false, false_or]; omega)) ⟨fun q => by omega, fun q => by omega, fun q => by omega⟩ (by first | omega | (simp only [zuI_1, zuI_2, zuJ_1, zuJ_2, zuJ_3, zuP_1, zuP_2, zuP_3, zuC_1, zuC_2, reduceIte, Nat.reduceEqDiff, false_and, and_false, true_and, and_true, and_self, or_true, true_or, or_false, false_or]; omega))) (by decide) (by decide) ⟨Nat.zero_le _, Nat.zero_le _⟩ (Nat.le_of_ble_eq_true rfl) (fun G161 hp161 => ?_)
              obtain ⟨hz161, hq161⟩ := hp161
              have tr161_1042 := zsm_at hz161 1042 w 0 (by decide)
              try simp only [zuI_1, zuI_2, zuJ_1, zuJ_2, zuJ_3, zuP_1, zuP_2, zuP_3, zuC_1, zuC_2, reduceIte, Nat.reduceEqDiff, false_and, and_false, true_and, and_true, and_self, or_true, true_or, or_false, false_or] at tr161_1042
              have tr161_1044 := zsm_at hz161 1044 w 0 (by decide)
              try simp only [zuI_1, zuI_2, zuJ_1, zuJ_2, zuJ_3, zuP_1, zuP_2, zuP_3, zuC_1, zuC_2, reduceIte, Nat.reduceEqDiff, false_and, and_false, true_and, and_true, and_self, or_true, true_or, or_false, false_or] at tr161_1044
              have tr161_1045 := zsm_at hz161 1045 w 0 (by decide)
              try simp only [zuI_1, zuI_2, zuJ_1, zuJ_2, zuJ_3, zuP_1, zuP_2, zuP_3, zuC_1, zuC_2, reduceIte, Nat.reduceEqDiff, false_and, and_false, true_and, and_true, and_self, or_true, true_or, or_false, false_or] at tr161_1045
              have tr161_1046 := zsm_at hz161 1046 w 0 (by decide)
              try simp only [zuI_1, zuI_2, zuJ_1, zuJ_2, zuJ_3, zuP_1, zuP_2, zuP_3, zuC_1, zuC_2, reduceIte, Nat.reduceEqDiff, false_and, and_false, true_and, and_true, and_self, or_true, true_or, or_false, false_or] at tr161_1046
              have tr161_1007 := zsm_at hz161 1007 w 0 (by decide)
              try simp only [zuI_1, zuI_2, zuJ_1, zuJ_2, zuJ_3, zuP_1, zuP_2, zuP_3, zuC_1, zuC_2, reduceIte, Nat.reduceEqDiff, false_and, and_false, true_and, and_true, and_self, or_true, true_or, or_false, false_or] at tr161_1007
              have tr161_1010 := zsm_at hz161 1010 w 0 (by decide)
              try simp only [zuI_1, zuI_2, zuJ_1, zuJ_2, zuJ_3, zuP_1, zuP_2, zuP_3, zuC_1, zuC_2, reduceIte, Nat.reduceEqDiff, false_and, and_false, true_and, and_true, and_self, or_true, true_or, or_false, false_or] at tr161_1010
              have tr161_1006 := zsm_at hz161 1006 w 0 (by decide)
              try simp only [zuI_1, zuI_2, zuJ_1, zuJ_2, zuJ_3, zuP_1, zuP_2, zuP_3, zuC_1, zuC_2, reduceIte, Nat.reduceEqDiff, false_and, and_false, true_and, and_true, and_self, or_true, true_or, or_false, false_or] at tr161_1006
              have tr161_1008 := zsm_at hz161 1008 w 0 (by decide)
              try simp only [zuI_1, zuI_2, zuJ_1, zuJ_2, zuJ_3, zuP_1, zuP_2, zuP_3, zuC_1, zuC_2, reduceIte, Nat.reduceEqDiff, false_and, and_false, true_and, and_true, and_self, or_true, true_or, or_false, false_or] at tr161_1008
              have tr161_1009 := zsm_at hz161 1009 w 0 (by decide)
              try simp only [zuI_1, zuI_2, zuJ_1, zuJ_2, zuJ_3, zuP_1, zuP_2, zuP_3, zuC_1, zuC_2, reduceIte, Nat.reduceEqDiff, false_and, and_false, true_and, and_true, and_self, or_true, true_or, or_false, false_or] at tr161_1009
              have hMI := hq161.1
              refine zs_aload_n (pc := 164) C dX9_leafRead_164 rfl ?_
              refine zs_iconst (pc := 165) C dX9_leafRead_165 (by decide) ?_
              refine zs_putz (r := 1046) (pc := 166) C dX9_leafRead_166 w_X9_345 f_10_46 rfl (r_1046 0) (by omega) (by omega) ?_
              refine zs_aload_n (pc := 169) C dX9_leafRead_169 rfl ?_
              refine zVv0 (pc := 170) C dX9_leafRead_170 v_X9_230 (c_X9_token hX (by first | omega | (simp only [zuI_1, zuI_2, zuJ_1, zuJ_2, zuJ_3, zuP_1, zuP_2, zuP_3, zuC_1, zuC_2, reduceIte, Nat.reduceEqDiff, false_and, and_false, true_and, and_true, and_self, or_true, true_or, or_false, false_or]; omega))) (by decide) (by decide) ⟨Nat.zero_le _, Nat.zero_le _⟩ (Nat.le_of_ble_eq_true rfl) (fun G170 hp170 => ?_)
              obtain ⟨hz170, hq170⟩ := hp170
              try simp only [zuI_1, zuI_2, zuJ_1, zuJ_2, zuJ_3, zuP_1, zuP_2, zuP_3, zuC_1, zuC_2, reduceIte, Nat.reduceEqDiff, false_and, and_false, true_and, and_true, and_self, or_true, true_or, or_false, false_or] at hq170
              have tr170_1042 := zsm_at hz170 1042 w 0 (by decide)
              try simp only [zuI_1, zuI_2, zuJ_1, zuJ_2, zuJ_3, zuP_1, zuP_2, zuP_3, zuC_1, zuC_2, reduceIte, Nat.reduceEqDiff, false_and, and_false, true_and, and_true, and_self, or_true, true_or, or_false, false_or] at tr170_1042
              have tr170_1043 := zsm_at hz170 1043 w 0 (by decide)
              try simp only [zuI_1, zuI_2, zuJ_1, zuJ_2, zuJ_3, zuP_1, zuP_2, zuP_3, zuC_1, zuC_2, reduceIte, Nat.reduceEqDiff, false_and, and_false, true_and, and_true, and_self, or_true, true_or, or_false, false_or] at tr170_1043
              have tr170_1044 := zsm_at hz170 1044 w 0 (by decide)
              try simp only [zuI_1, zuI_2, zuJ_1, zuJ_2, zuJ_3, zuP_1, zuP_2, zuP_3, zuC_1, zuC_2, reduceIte, Nat.reduceEqDiff, false_and, and_false, true_and, and_true, and_self, or_true, true_or, or_false, false_or] at tr170_1044
              have tr170_1045 := zsm_at hz170 1045 w 0 (by decide)
              try simp only [zuI_1, zuI_2, zuJ_1, zuJ_2, zuJ_3, zuP_1, zuP_2, zuP_3, zuC_1, zuC_2, reduceIte, Nat.reduceEqDiff, false_and, and_false, true_and, and_true, and_self, or_true, true_or, or_false, false_or] at tr170_1045
              have tr170_1046 := zsm_at hz170 1046 w 0 (by decide)
              try simp only [zuI_1, zuI_2, zuJ_1, zuJ_2, zuJ_3, zuP_1, zuP_2, zuP_3, zuC_1, zuC_2, reduceIte, Nat.reduceEqDiff, false_and, and_false, true_and, and_true, and_self, or_true, true_or, or_false, false_or] at tr170_1046
              have tr170_1021 := zsm_at hz170 1021 w 0 (by decide)
              try simp only [zuI_1, zuI_2, zuJ_1, zuJ_2, zuJ_3, zuP_1, zuP_2, zuP_3, zuC_1, zuC_2, reduceIte, Nat.reduceEqDiff, false_and, and_false, true_and, and_true, and_self, or_true, true_or, or_false, false_or] at tr170_1021
              have tr170_1006 := zsm_at hz170 1006 w 0 (by decide)
              try simp only [zuI_1, zuI_2, zuJ_1, zuJ_2, zuJ_3, zuP_1, zuP_2, zuP_3, zuC_1, zuC_2, reduceIte, Nat.reduceEqDiff, false_and, and_false, true_and, and_true, and_self, or_true, true_or, or_false, false_or] at tr170_1006
              have hTI := hq170.1
              have e77 : G170.1 2077 = G.1 2077 := by rw [hz170.1 2077 (by decide), zuI_ne (show (2077 : Nat) ≠ 1046 by decide), hz161.1 2077 (by decide), hz130.1 2077 (by decide)]
              have e42 : G170.1 1042 w 0 = G.1 1042 w 0 := by omega
              have hPI : PI Γ w G170 := by
                unfold PI
                rw [e77, e42]
                exact ⟨by omega, by omega, by omega, fun q => by omega⟩
              refine zs_iconst (pc := 173) C dX9_leafRead_173 (by decide) ?_
              exact zs_zret (pc := 174) C hr hlk dX9_leafRead_174 (by omega) ⟨by repeat (first | exact zsm_rf | assumption | refine zsm_C (by decide) ?_ | refine zsm_I (by decide) ?_ | refine zsm_J ?_ | refine zsm_c (by assumption) (by decide) ?_), ⟨by omega, (by repeat (first | assumption | refine MI_I (by decide) ?_ | refine MI_J ?_ | refine MI_sm (by assumption) (by decide) ?_ | refine MI_sn (by assumption) (by decide) ?_)), fun q => by first | (exfalso; omega) | exact ⟨hTI, hPI, by omega⟩⟩⟩
          · skip
            refine zs_iconst (pc := 143) C dX9_leafRead_143 (by decide) ?_
            refine zs_goto (tgt := 148) (pc := 144) C dX9_leafRead_144 (by decide) ?_
            refine zs_iload_n (pc := 148) C dX9_leafRead_148 rfl ?_
            refine zs_if_lt (tgt := 156) (pc := 149) C dX9_leafRead_149 (by decide) (fun h149 => ?_) (fun h149 => ?_)
            · skip
              refine zs_aload_n (pc := 156) C dX9_leafRead_156 rfl ?_
              refine zs_geti (r := 1009) (pc := 157) C dX9_leafRead_157 w_X9_207 f_10_9 rfl (r_1009 0) (fun v157 e157 l157 u157 => ?_)
              refine zs_iconst (pc := 160) C dX9_leafRead_160 (by decide) ?_
              refine zVv3 (pc := 161) C dX9_leafRead_161 v_X9_324 (c_X9_grown hX (by repeat (first | assumption | refine MI_I (by decide) ?_ | refine MI_J ?_ | refine MI_sm (by assumption) (by decide) ?_ | refine MI_sn (by assumption) (by decide) ?_)) (by first | omega | (simp only [zuI_1, zuI_2, zuJ_1, zuJ_2, zuJ_3, zuP_1, zuP_2, zuP_3, zuC_1, zuC_2, reduceIte, Nat.reduceEqDiff, false_and, and_false, true_and, and_true, and_self, or_true, true_or, or_false, false_or]; omega)) (by first | omega | (simp only [zuI_1, zuI_2, zuJ_1, zuJ_2, zuJ_3, zuP_1, zuP_2, zuP_3, zuC_1, zuC_2, reduceIte, Nat.reduceEqDiff, false_and, and_false, true_and, and_true, and_self, or_true, true_or, or_false, false_or]; omega)) (by first | omega | (simp only [zuI_1, zuI_2, zuJ_1, zuJ_2, zuJ_3, zuP_1, zuP_2, zuP_3, zuC_1, zuC_2, reduceIte, Nat.reduceEqDiff, false_and, and_false, true_and, and_true, and_self, or_true, true_or, or_false, false_or]; omega)) ⟨fun q => by omega, fun q => by omega, fun q => by omega⟩ (by first | omega | (simp only [zuI_1, zuI_2, zuJ_1, zuJ_2, zuJ_3, zuP_1, zuP_2, zuP_3, zuC_1, zuC_2, reduceIte, Nat.reduceEqDiff, false_and, and_false, true_and, and_true, and_self, or_true, true_or, or_false, false_or]; omega))) (by decide) (by decide) ⟨Nat.zero_le _, Nat.zero_le _⟩ (Nat.le_of_ble_eq_true rfl) (fun G161 hp161 => ?_)
              obtain ⟨hz161, hq161⟩ := hp161
              have tr161_1042 := zsm_at hz161 1042 w 0 (by decide)
              try simp only [zuI_1, zuI_2, zuJ_1, zuJ_2, zuJ_3, zuP_1, zuP_2, zuP_3, zuC_1, zuC_2, reduceIte, Nat.reduceEqDiff, false_and, and_false, true_and, and_true, and_self, or_true, true_or, or_false, false_or] at tr161_1042
              have tr161_1044 := zsm_at hz161 1044 w 0 (by decide)
              try simp only [zuI_1, zuI_2, zuJ_1, zuJ_2, zuJ_3, zuP_1, zuP_2, zuP_3, zuC_1, zuC_2, reduceIte, Nat.reduceEqDiff, false_and, and_false, true_and, and_true, and_self, or_true, true_or, or_false, false_or] at tr161_1044
              have tr161_1045 := zsm_at hz161 1045 w 0 (by decide)
              try simp only [zuI_1, zuI_2, zuJ_1, zuJ_2, zuJ_3, zuP_1, zuP_2, zuP_3, zuC_1, zuC_2, reduceIte, Nat.reduceEqDiff, false_and, and_false, true_and, and_true, and_self, or_true, true_or, or_false, false_or] at tr161_1045
              have tr161_1046 := zsm_at hz161 1046 w 0 (by decide)
              try simp only [zuI_1, zuI_2, zuJ_1, zuJ_2, zuJ_3, zuP_1, zuP_2, zuP_3, zuC_1, zuC_2, reduceIte, Nat.reduceEqDiff, false_and, and_false, true_and, and_true, and_self, or_true, true_or, or_false, false_or] at tr161_1046
              have tr161_1007 := zsm_at hz161 1007 w 0 (by decide)
              try simp only [zuI_1, zuI_2, zuJ_1, zuJ_2, zuJ_3, zuP_1, zuP_2, zuP_3, zuC_1, zuC_2, reduceIte, Nat.reduceEqDiff, false_and, and_false, true_and, and_true, and_self, or_true, true_or, or_false, false_or] at tr161_1007
              have tr161_1010 := zsm_at hz161 1010 w 0 (by decide)
              try simp only [zuI_1, zuI_2, zuJ_1, zuJ_2, zuJ_3, zuP_1, zuP_2, zuP_3, zuC_1, zuC_2, reduceIte, Nat.reduceEqDiff, false_and, and_false, true_and, and_true, and_self, or_true, true_or, or_false, false_or] at tr161_1010
              have tr161_1006 := zsm_at hz161 1006 w 0 (by decide)
              try simp only [zuI_1, zuI_2, zuJ_1, zuJ_2, zuJ_3, zuP_1, zuP_2, zuP_3, zuC_1, zuC_2, reduceIte, Nat.reduceEqDiff, false_and, and_false, true_and, and_true, and_self, or_true, true_or, or_false, false_or] at tr161_1006
              have tr161_1008 := zsm_at hz161 1008 w 0 (by decide)
              try simp only [zuI_1, zuI_2, zuJ_1, zuJ_2, zuJ_3, zuP_1, zuP_2, zuP_3, zuC_1, zuC_2, reduceIte, Nat.reduceEqDiff, false_and, and_false, true_and, and_true, and_self, or_true, true_or, or_false, false_or] at tr161_1008
              have tr161_1009 := zsm_at hz161 1009 w 0 (by decide)
              try simp only [zuI_1, zuI_2, zuJ_1, zuJ_2, zuJ_3, zuP_1, zuP_2, zuP_3, zuC_1, zuC_2, reduceIte, Nat.reduceEqDiff, false_and, and_false, true_and, and_true, and_self, or_true, true_or, or_false, false_or] at tr161_1009
              have hMI := hq161.1
              refine zs_aload_n (pc := 164) C dX9_leafRead_164 rfl ?_
              refine zs_iconst (pc := 165) C dX9_leafRead_165 (by decide) ?_
              refine zs_putz (r := 1046) (pc := 166) C dX9_leafRead_166 w_X9_345 f_10_46 rfl (r_1046 0) (by omega) (by omega) ?_
              refine zs_aload_n (pc := 169) C dX9_leafRead_169 rfl ?_
              refine zVv0 (pc := 170) C dX9_leafRead_170 v_X9_230 (c_X9_token hX (by first | omega | (simp only [zuI_1, zuI_2, zuJ_1, zuJ_2, zuJ_3, zuP_1, zuP_2, zuP_3, zuC_1, zuC_2, reduceIte, Nat.reduceEqDiff, false_and, and_false, true_and, and_true, and_self, or_true, true_or, or_false, false_or]; omega))) (by decide) (by decide) ⟨Nat.zero_le _, Nat.zero_le _⟩ (Nat.le_of_ble_eq_true rfl) (fun G170 hp170 => ?_)
              obtain ⟨hz170, hq170⟩ := hp170
              try simp only [zuI_1, zuI_2, zuJ_1, zuJ_2, zuJ_3, zuP_1, zuP_2, zuP_3, zuC_1, zuC_2, reduceIte, Nat.reduceEqDiff, false_and, and_false, true_and, and_true, and_self, or_true, true_or, or_false, false_or] at hq170
              have tr170_1042 := zsm_at hz170 1042 w 0 (by decide)
              try simp only [zuI_1, zuI_2, zuJ_1, zuJ_2, zuJ_3, zuP_1, zuP_2, zuP_3, zuC_1, zuC_2, reduceIte, Nat.reduceEqDiff, false_and, and_false, true_and, and_true, and_self, or_true, true_or, or_false, false_or] at tr170_1042
              have tr170_1043 := zsm_at hz170 1043 w 0 (by decide)
              try simp only [zuI_1, zuI_2, zuJ_1, zuJ_2, zuJ_3, zuP_1, zuP_2, zuP_3, zuC_1, zuC_2, reduceIte, Nat.reduceEqDiff, false_and, and_false, true_and, and_true, and_self, or_true, true_or, or_false, false_or] at tr170_1043
              have tr170_1044 := zsm_at hz170 1044 w 0 (by decide)
              try simp only [zuI_1, zuI_2, zuJ_1, zuJ_2, zuJ_3, zuP_1, zuP_2, zuP_3, zuC_1, zuC_2, reduceIte, Nat.reduceEqDiff, false_and, and_false, true_and, and_true, and_self, or_true, true_or, or_false, false_or] at tr170_1044
              have tr170_1045 := zsm_at hz170 1045 w 0 (by decide)
              try simp only [zuI_1, zuI_2, zuJ_1, zuJ_2, zuJ_3, zuP_1, zuP_2, zuP_3, zuC_1, zuC_2, reduceIte, Nat.reduceEqDiff, false_and, and_false, true_and, and_true, and_self, or_true, true_or, or_false, false_or] at tr170_1045
              have tr170_1046 := zsm_at hz170 1046 w 0 (by decide)
              try simp only [zuI_1, zuI_2, zuJ_1, zuJ_2, zuJ_3, zuP_1, zuP_2, zuP_3, zuC_1, zuC_2, reduceIte, Nat.reduceEqDiff, false_and, and_false, true_and, and_true, and_self, or_true, true_or, or_false, false_or] at tr170_1046
              have tr170_1021 := zsm_at hz170 1021 w 0 (by decide)
              try simp only [zuI_1, zuI_2, zuJ_1, zuJ_2, zuJ_3, zuP_1, zuP_2, zuP_3, zuC_1, zuC_2, reduceIte, Nat.reduceEqDiff, false_and, and_false, true_and, and_true, and_self, or_true, true_or, or_false, false_or] at tr170_1021
              have tr170_1006 := zsm_at hz170 1006 w 0 (by decide)
              try simp only [zuI_1, zuI_2, zuJ_1, zuJ_2, zuJ_3, zuP_1, zuP_2, zuP_3, zuC_1, zuC_2, reduceIte, Nat.reduceEqDiff, false_and, and_false, true_and, and_true, and_self, or_true, true_or, or_false, false_or] at tr170_1006
              have hTI := hq170.1
              have e77 : G170.1 2077 = G.1 2077 := by rw [hz170.1 2077 (by decide), zuI_ne (show (2077 : Nat) ≠ 1046 by decide), hz161.1 2077 (by decide), hz130.1 2077 (by decide)]
              have e42 : G170.1 1042 w 0 = G.1 1042 w 0 := by omega
              have hPI : PI Γ w G170 := by
                unfold PI
                rw [e77, e42]
                exact ⟨by omega, by omega, by omega, fun q => by omega⟩
              refine zs_iconst (pc := 173) C dX9_leafRead_173 (by decide) ?_
              exact zs_zret (pc := 174) C hr hlk dX9_leafRead_174 (by omega) ⟨by repeat (first | exact zsm_rf | assumption | refine zsm_C (by decide) ?_ | refine zsm_I (by decide) ?_ | refine zsm_J ?_ | refine zsm_c (by assumption) (by decide) ?_), ⟨by omega, (by repeat (first | assumption | refine MI_I (by decide) ?_ | refine MI_J ?_ | refine MI_sm (by assumption) (by decide) ?_ | refine MI_sn (by assumption) (by decide) ?_)), fun q => by first | (exfalso; omega) | exact ⟨hTI, hPI, by omega⟩⟩⟩
            · skip
              refine zs_iload_n (pc := 152) C dX9_leafRead_152 rfl ?_
              refine zs_goto (tgt := 160) (pc := 153) C dX9_leafRead_153 (by decide) ?_
              refine zs_iconst (pc := 160) C dX9_leafRead_160 (by decide) ?_
              refine zVv3 (pc := 161) C dX9_leafRead_161 v_X9_324 (c_X9_grown hX (by repeat (first | assumption | refine MI_I (by decide) ?_ | refine MI_J ?_ | refine MI_sm (by assumption) (by decide) ?_ | refine MI_sn (by assumption) (by decide) ?_)) (by first | omega | (simp only [zuI_1, zuI_2, zuJ_1, zuJ_2, zuJ_3, zuP_1, zuP_2, zuP_3, zuC_1, zuC_2, reduceIte, Nat.reduceEqDiff, false_and, and_false, true_and, and_true, and_self, or_true, true_or, or_false, false_or]; omega)) (by first | omega | (simp only [zuI_1, zuI_2, zuJ_1, zuJ_2, zuJ_3, zuP_1, zuP_2, zuP_3, zuC_1, zuC_2, reduceIte, Nat.reduceEqDiff, false_and, and_false, true_and, and_true, and_self, or_true, true_or, or_false, false_or]; omega)) (by first | omega | (simp only [zuI_1, zuI_2, zuJ_1, zuJ_2, zuJ_3, zuP_1, zuP_2, zuP_3, zuC_1, zuC_2, reduceIte, Nat.reduceEqDiff, false_and, and_false, true_and, and_true, and_self, or_true, true_or, or_false, false_or]; omega)) ⟨fun q => by omega, fun q => by omega, fun q => by omega⟩ (by first | omega | (simp only [zuI_1, zuI_2, zuJ_1, zuJ_2, zuJ_3, zuP_1, zuP_2, zuP_3, zuC_1, zuC_2, reduceIte, Nat.reduceEqDiff, false_and, and_false, true_and, and_true, and_self, or_true, true_or, or_false, false_or]; omega))) (by decide) (by decide) ⟨Nat.zero_le _, Nat.zero_le _⟩ (Nat.le_of_ble_eq_true rfl) (fun G161 hp161 => ?_)
              obtain ⟨hz161, hq161⟩ := hp161
              have tr161_1042 := zsm_at hz161 1042 w 0 (by decide)
              try simp only [zuI_1, zuI_2, zuJ_1, zuJ_2, zuJ_3, zuP_1, zuP_2, zuP_3, zuC_1, zuC_2, reduceIte, Nat.reduceEqDiff, false_and, and_false, true_and, and_true, and_self, or_true, true_or, or_false, false_or] at tr161_1042
              have tr161_1044 := zsm_at hz161 1044 w 0 (by decide)
              try simp only [zuI_1, zuI_2, zuJ_1, zuJ_2, zuJ_3, zuP_1, zuP_2, zuP_3, zuC_1, zuC_2, reduceIte, Nat.reduceEqDiff, false_and, and_false, true_and, and_true, and_self, or_true, true_or, or_false, false_or] at tr161_1044
              have tr161_1045 := zsm_at hz161 1045 w 0 (by decide)
              try simp only [zuI_1, zuI_2, zuJ_1, zuJ_2, zuJ_3, zuP_1, zuP_2, zuP_3, zuC_1, zuC_2, reduceIte, Nat.reduceEqDiff, false_and, and_false, true_and, and_true, and_self, or_true, true_or, or_false, false_or] at tr161_1045
              have tr161_1046 := zsm_at hz161 1046 w 0 (by decide)
              try simp only [zuI_1, zuI_2, zuJ_1, zuJ_2, zuJ_3, zuP_1, zuP_2, zuP_3, zuC_1, zuC_2, reduceIte, Nat.reduceEqDiff, false_and, and_false, true_and, and_true, and_self, or_true, true_or, or_false, false_or] at tr161_1046
              have tr161_1007 := zsm_at hz161 1007 w 0 (by decide)
              try simp only [zuI_1, zuI_2, zuJ_1, zuJ_2, zuJ_3, zuP_1, zuP_2, zuP_3, zuC_1, zuC_2, reduceIte, Nat.reduceEqDiff, false_and, and_false, true_and, and_true, and_self, or_true, true_or, or_false, false_or] at tr161_1007
              have tr161_1010 := zsm_at hz161 1010 w 0 (by decide)
              try simp only [zuI_1, zuI_2, zuJ_1, zuJ_2, zuJ_3, zuP_1, zuP_2, zuP_3, zuC_1, zuC_2, reduceIte, Nat.reduceEqDiff, false_and, and_false, true_and, and_true, and_self, or_true, true_or, or_false, false_or] at tr161_1010
              have tr161_1006 := zsm_at hz161 1006 w 0 (by decide)
              try simp only [zuI_1, zuI_2, zuJ_1, zuJ_2, zuJ_3, zuP_1, zuP_2, zuP_3, zuC_1, zuC_2, reduceIte, Nat.reduceEqDiff, false_and, and_false, true_and, and_true, and_self, or_true, true_or, or_false, false_or] at tr161_1006
              have tr161_1008 := zsm_at hz161 1008 w 0 (by decide)
              try simp only [zuI_1, zuI_2, zuJ_1, zuJ_2, zuJ_3, zuP_1, zuP_2, zuP_3, zuC_1, zuC_2, reduceIte, Nat.reduceEqDiff, false_and, and_false, true_and, and_true, and_self, or_true, true_or, or_false, false_or] at tr161_1008
              have tr161_1009 := zsm_at hz161 1009 w 0 (by decide)
              try simp only [zuI_1, zuI_2, zuJ_1, zuJ_2, zuJ_3, zuP_1, zuP_2, zuP_3, zuC_1, zuC_2, reduceIte, Nat.reduceEqDiff, false_and, and_false, true_and, and_true, and_self, or_true, true_or, or_false, false_or] at tr161_1009
              have hMI := hq161.1
              refine zs_aload_n (pc := 164) C dX9_leafRead_164 rfl ?_
              refine zs_iconst (pc := 165) C dX9_leafRead_165 (by decide) ?_
              refine zs_putz (r := 1046) (pc := 166) C dX9_leafRead_166 w_X9_345 f_10_46 rfl (r_1046 0) (by omega) (by omega) ?_
              refine zs_aload_n (pc := 169) C dX9_leafRead_169 rfl ?_
              refine zVv0 (pc := 170) C dX9_leafRead_170 v_X9_230 (c_X9_token hX (by first | omega | (simp only [zuI_1, zuI_2, zuJ_1, zuJ_2, zuJ_3, zuP_1, zuP_2, zuP_3, zuC_1, zuC_2, reduceIte, Nat.reduceEqDiff, false_and, and_false, true_and, and_true, and_self, or_true, true_or, or_false, false_or]; omega))) (by decide) (by decide) ⟨Nat.zero_le _, Nat.zero_le _⟩ (Nat.le_of_ble_eq_true rfl) (fun G170 hp170 => ?_)
              obtain ⟨hz170, hq170⟩ := hp170
              try simp only [zuI_1, zuI_2, zuJ_1, zuJ_2, zuJ_3, zuP_1, zuP_2, zuP_3, zuC_1, zuC_2, reduceIte, Nat.reduceEqDiff, false_and, and_false, true_and, and_true, and_self, or_true, true_or, or_false, false_or] at hq170
              have tr170_1042 := zsm_at hz170 1042 w 0 (by decide)
              try simp only [zuI_1, zuI_2, zuJ_1, zuJ_2, zuJ_3, zuP_1, zuP_2, zuP_3, zuC_1, zuC_2, reduceIte, Nat.reduceEqDiff, false_and, and_false, true_and, and_true, and_self, or_true, true_or, or_false, false_or] at tr170_1042
              have tr170_1043 := zsm_at hz170 1043 w 0 (by decide)
              try simp only [zuI_1, zuI_2, zuJ_1, zuJ_2, zuJ_3, zuP_1, zuP_2, zuP_3, zuC_1, zuC_2, reduceIte, Nat.reduceEqDiff, false_and, and_false, true_and, and_true, and_self, or_true, true_or, or_false, false_or] at tr170_1043
              have tr170_1044 := zsm_at hz170 1044 w 0 (by decide)
              try simp only [zuI_1, zuI_2, zuJ_1, zuJ_2, zuJ_3, zuP_1, zuP_2, zuP_3, zuC_1, zuC_2, reduceIte, Nat.reduceEqDiff, false_and, and_false, true_and, and_true, and_self, or_true, true_or, or_false, false_or] at tr170_1044
              have tr170_1045 := zsm_at hz170 1045 w 0 (by decide)
              try simp only [zuI_1, zuI_2, zuJ_1, zuJ_2, zuJ_3, zuP_1, zuP_2, zuP_3, zuC_1, zuC_2, reduceIte, Nat.reduceEqDiff, false_and, and_false, true_and, and_true, and_self, or_true, true_or, or_false, false_or] at tr170_1045
              have tr170_1046 := zsm_at hz170 1046 w 0 (by decide)
              try simp only [zuI_1, zuI_2, zuJ_1, zuJ_2, zuJ_3, zuP_1, zuP_2, zuP_3, zuC_1, zuC_2, reduceIte, Nat.reduceEqDiff, false_and, and_false, true_and, and_true, and_self, or_true, true_or, or_false, false_or] at tr170_1046
              have tr170_1021 := zsm_at hz170 1021 w 0 (by decide)
              try simp only [zuI_1, zuI_2, zuJ_1, zuJ_2, zuJ_3, zuP_1, zuP_2, zuP_3, zuC_1, zuC_2, reduceIte, Nat.reduceEqDiff, false_and, and_false, true_and, and_true, and_self, or_true, true_or, or_false, false_or] at tr170_1021
              have tr170_1006 := zsm_at hz170 1006 w 0 (by decide)
              try simp only [zuI_1, zuI_2, zuJ_1, zuJ_2, zuJ_3, zuP_1, zuP_2, zuP_3, zuC_1, zuC_2, reduceIte, Nat.reduceEqDiff, false_and, and_false, true_and, and_true, and_self, or_true, true_or, or_false, false_or] at tr170_1006
              have hTI := hq170.1
              have e77 : G170.1 2077 = G.1 2077 := by rw [hz170.1 2077 (by decide), zuI_ne (show (2077 : Nat) ≠ 1046 by decide), hz161.1 2077 (by decide), hz130.1 2077 (by decide)]
              have e42 : G170.1 1042 w 0 = G.1 1042 w 0 := by omega
              have hPI : PI Γ w G170 := by
                unfold PI
                rw [e77, e42]
                exact ⟨by omega, by omega, by omega, fun q => by omega⟩
              refine zs_iconst (pc := 173) C dX9_leafRead_173 (by decide) ?_
              exact zs_zret (pc := 174) C hr hlk dX9_leafRead_174 (by omega) ⟨by repeat (first | exact zsm_rf | assumption | refine zsm_C (by decide) ?_ | refine zsm_I (by decide) ?_ | refine zsm_J ?_ | refine zsm_c (by assumption) (by decide) ?_), ⟨by omega, (by repeat (first | assumption | refine MI_I (by decide) ?_ | refine MI_J ?_ | refine MI_sm (by assumption) (by decide) ?_ | refine MI_sn (by assumption) (by decide) ?_)), fun q => by first | (exfalso; omega) | exact ⟨hTI, hPI, by omega⟩⟩⟩
        · skip
          refine zs_iconst (pc := 136) C dX9_leafRead_136 (by decide) ?_
          exact zs_zret (pc := 137) C hr hlk dX9_leafRead_137 (by omega) ⟨by repeat (first | exact zsm_rf | assumption | refine zsm_C (by decide) ?_ | refine zsm_I (by decide) ?_ | refine zsm_J ?_ | refine zsm_c (by assumption) (by decide) ?_), ⟨by omega, (by repeat (first | assumption | refine MI_I (by decide) ?_ | refine MI_J ?_ | refine MI_sm (by assumption) (by decide) ?_ | refine MI_sn (by assumption) (by decide) ?_)), fun q => by first | (exfalso; omega) | exact ⟨hTI, hPI, by omega⟩⟩⟩
      refine zs_iload_n (pc := 91) C dX9_leafRead_91 rfl ?_
      refine zs_if_ge (tgt := 109) (pc := 92) C dX9_leafRead_92 (by decide) (fun h92 => ?_) (fun h92 => ?_)
      · skip
        refine zs_iload_n (pc := 109) C dX9_leafRead_109 rfl ?_
        refine zs_if_ge (tgt := 129) (pc := 110) C dX9_leafRead_110 (by decide) (fun h110 => ?_) (fun h110 => ?_)
        · skip
          exact zs_wk (J129 _ (by first | omega | (simp only [zuI_1, zuI_2, zuJ_1, zuJ_2, zuJ_3, zuP_1, zuP_2, zuP_3, zuC_1, zuC_2, reduceIte, Nat.reduceEqDiff, false_and, and_false, true_and, and_true, and_self, or_true, true_or, or_false, false_or]; omega))) (zwk_s rfl (zwk_s rfl zwk_0))
        · skip
          refine zs_aload_n (pc := 113) C dX9_leafRead_113 rfl ?_
          refine zs_geti (r := 1009) (pc := 114) C dX9_leafRead_114 w_X9_207 f_10_9 rfl (r_1009 0) (fun v114 e114 l114 u114 => ?_)
          refine zs_sipush (pc := 117) C dX9_leafRead_117 (by decide) (by decide) ?_
          refine zs_icmp_le (tgt := 129) (pc := 120) C dX9_leafRead_120 (by decide) (fun h120 => ?_) (fun h120 => ?_)
          · skip
            exact zs_wk (J129 _ (by first | omega | (simp only [zuI_1, zuI_2, zuJ_1, zuJ_2, zuJ_3, zuP_1, zuP_2, zuP_3, zuC_1, zuC_2, reduceIte, Nat.reduceEqDiff, false_and, and_false, true_and, and_true, and_self, or_true, true_or, or_false, false_or]; omega))) (zwk_s rfl (zwk_s rfl zwk_0))
          · skip
            refine zs_aload_n (pc := 123) C dX9_leafRead_123 rfl ?_
            refine zs_iconst (pc := 124) C dX9_leafRead_124 (by decide) ?_
            refine zVi1 (pc := 125) C dX9_leafRead_125 v_X9_220 (c_X9_wrong hX ) (by decide) (by decide) ⟨Nat.zero_le _, Nat.zero_le _⟩ (Nat.le_of_ble_eq_true rfl) (fun x125 G125 l125 u125 hp125 => ?_)
            obtain ⟨hz125, hq125⟩ := hp125
            have tr125_1042 := zsm_at hz125 1042 w 0 (by decide)
            try simp only [zuI_1, zuI_2, zuJ_1, zuJ_2, zuJ_3, zuP_1, zuP_2, zuP_3, zuC_1, zuC_2, reduceIte, Nat.reduceEqDiff, false_and, and_false, true_and, and_true, and_self, or_true, true_or, or_false, false_or] at tr125_1042
            have tr125_1043 := zsm_at hz125 1043 w 0 (by decide)
            try simp only [zuI_1, zuI_2, zuJ_1, zuJ_2, zuJ_3, zuP_1, zuP_2, zuP_3, zuC_1, zuC_2, reduceIte, Nat.reduceEqDiff, false_and, and_false, true_and, and_true, and_self, or_true, true_or, or_false, false_or] at tr125_1043
            have tr125_1044 := zsm_at hz125 1044 w 0 (by decide)
            try simp only [zuI_1, zuI_2, zuJ_1, zuJ_2, zuJ_3, zuP_1, zuP_2, zuP_3, zuC_1, zuC_2, reduceIte, Nat.reduceEqDiff, false_and, and_false, true_and, and_true, and_self, or_true, true_or, or_false, false_or] at tr125_1044
            have tr125_1045 := zsm_at hz125 1045 w 0 (by decide)
            try simp only [zuI_1, zuI_2, zuJ_1, zuJ_2, zuJ_3, zuP_1, zuP_2, zuP_3, zuC_1, zuC_2, reduceIte, Nat.reduceEqDiff, false_and, and_false, true_and, and_true, and_self, or_true, true_or, or_false, false_or] at tr125_1045
            have tr125_1046 := zsm_at hz125 1046 w 0 (by decide)
            try simp only [zuI_1, zuI_2, zuJ_1, zuJ_2, zuJ_3, zuP_1, zuP_2, zuP_3, zuC_1, zuC_2, reduceIte, Nat.reduceEqDiff, false_and, and_false, true_and, and_true, and_self, or_true, true_or, or_false, false_or] at tr125_1046
            have tr125_1021 := zsm_at hz125 1021 w 0 (by decide)
            try simp only [zuI_1, zuI_2, zuJ_1, zuJ_2, zuJ_3, zuP_1, zuP_2, zuP_3, zuC_1, zuC_2, reduceIte, Nat.reduceEqDiff, false_and, and_false, true_and, and_true, and_self, or_true, true_or, or_false, false_or] at tr125_1021
            have tr125_1007 := zsm_at hz125 1007 w 0 (by decide)
            try simp only [zuI_1, zuI_2, zuJ_1, zuJ_2, zuJ_3, zuP_1, zuP_2, zuP_3, zuC_1, zuC_2, reduceIte, Nat.reduceEqDiff, false_and, and_false, true_and, and_true, and_self, or_true, true_or, or_false, false_or] at tr125_1007
            have tr125_1010 := zsm_at hz125 1010 w 0 (by decide)
            try simp only [zuI_1, zuI_2, zuJ_1, zuJ_2, zuJ_3, zuP_1, zuP_2, zuP_3, zuC_1, zuC_2, reduceIte, Nat.reduceEqDiff, false_and, and_false, true_and, and_true, and_self, or_true, true_or, or_false, false_or] at tr125_1010
            have tr125_1006 := zsm_at hz125 1006 w 0 (by decide)
            try simp only [zuI_1, zuI_2, zuJ_1, zuJ_2, zuJ_3, zuP_1, zuP_2, zuP_3, zuC_1, zuC_2, reduceIte, Nat.reduceEqDiff, false_and, and_false, true_and, and_true, and_self, or_true, true_or, or_false, false_or] at tr125_1006
            have tr125_1008 := zsm_at hz125 1008 w 0 (by decide)
            try simp only [zuI_1, zuI_2, zuJ_1, zuJ_2, zuJ_3, zuP_1, zuP_2, zuP_3, zuC_1, zuC_2, reduceIte, Nat.reduceEqDiff, false_and, and_false, true_and, and_true, and_self, or_true, true_or, or_false, false_or] at tr125_1008
            have tr125_1009 := zsm_at hz125 1009 w 0 (by decide)
            try simp only [zuI_1, zuI_2, zuJ_1, zuJ_2, zuJ_3, zuP_1, zuP_2, zuP_3, zuC_1, zuC_2, reduceIte, Nat.reduceEqDiff, false_and, and_false, true_and, and_true, and_self, or_true, true_or, or_false, false_or] at tr125_1009
            exact zs_zret (pc := 128) C hr hlk dX9_leafRead_128 (by omega) ⟨by repeat (first | exact zsm_rf | assumption | refine zsm_C (by decide) ?_ | refine zsm_I (by decide) ?_ | refine zsm_J ?_ | refine zsm_c (by assumption) (by decide) ?_), ⟨by omega, (by repeat (first | assumption | refine MI_I (by decide) ?_ | refine MI_J ?_ | refine MI_sm (by assumption) (by decide) ?_ | refine MI_sn (by assumption) (by decide) ?_)), fun q => by first | (exfalso; omega) | exact ⟨hTI, hPI, by omega⟩⟩⟩
      · skip
        refine zs_aload_n (pc := 95) C dX9_leafRead_95 rfl ?_
        refine zs_geti (r := 1008) (pc := 96) C dX9_leafRead_96 w_X9_196 f_10_8 rfl (r_1008 0) (fun v96 e96 l96 u96 => ?_)
        refine zs_iconst (pc := 99) C dX9_leafRead_99 (by decide) ?_
        refine zs_icmp_eq (tgt := 109) (pc := 100) C dX9_leafRead_100 (by decide) (fun h100 => ?_) (fun h100 => ?_)
        · skip
          refine zs_iload_n (pc := 109) C dX9_leafRead_109 rfl ?_
          refine zs_if_ge (tgt := 129) (pc := 110) C dX9_leafRead_110 (by decide) (fun h110 => ?_) (fun h110 => ?_)
          · skip
            exact zs_wk (J129 _ (by first | omega | (simp only [zuI_1, zuI_2, zuJ_1, zuJ_2, zuJ_3, zuP_1, zuP_2, zuP_3, zuC_1, zuC_2, reduceIte, Nat.reduceEqDiff, false_and, and_false, true_and, and_true, and_self, or_true, true_or, or_false, false_or]; omega))) (zwk_s rfl (zwk_s rfl zwk_0))
          · skip
            refine zs_aload_n (pc := 113) C dX9_leafRead_113 rfl ?_
            refine zs_geti (r := 1009) (pc := 114) C dX9_leafRead_114 w_X9_207 f_10_9 rfl (r_1009 0) (fun v114 e114 l114 u114 => ?_)
            refine zs_sipush (pc := 117) C dX9_leafRead_117 (by decide) (by decide) ?_
            refine zs_icmp_le (tgt := 129) (pc := 120) C dX9_leafRead_120 (by decide) (fun h120 => ?_) (fun h120 => ?_)
            · skip
              exact zs_wk (J129 _ (by first | omega | (simp only [zuI_1, zuI_2, zuJ_1, zuJ_2, zuJ_3, zuP_1, zuP_2, zuP_3, zuC_1, zuC_2, reduceIte, Nat.reduceEqDiff, false_and, and_false, true_and, and_true, and_self, or_true, true_or, or_false, false_or]; omega))) (zwk_s rfl (zwk_s rfl zwk_0))
            · skip
              refine zs_aload_n (pc := 123) C dX9_leafRead_123 rfl ?_
              refine zs_iconst (pc := 124) C dX9_leafRead_124 (by decide) ?_
              refine zVi1 (pc := 125) C dX9_leafRead_125 v_X9_220 (c_X9_wrong hX ) (by decide) (by decide) ⟨Nat.zero_le _, Nat.zero_le _⟩ (Nat.le_of_ble_eq_true rfl) (fun x125 G125 l125 u125 hp125 => ?_)
              obtain ⟨hz125, hq125⟩ := hp125
              have tr125_1042 := zsm_at hz125 1042 w 0 (by decide)
              try simp only [zuI_1, zuI_2, zuJ_1, zuJ_2, zuJ_3, zuP_1, zuP_2, zuP_3, zuC_1, zuC_2, reduceIte, Nat.reduceEqDiff, false_and, and_false, true_and, and_true, and_self, or_true, true_or, or_false, false_or] at tr125_1042
              have tr125_1043 := zsm_at hz125 1043 w 0 (by decide)
              try simp only [zuI_1, zuI_2, zuJ_1, zuJ_2, zuJ_3, zuP_1, zuP_2, zuP_3, zuC_1, zuC_2, reduceIte, Nat.reduceEqDiff, false_and, and_false, true_and, and_true, and_self, or_true, true_or, or_false, false_or] at tr125_1043
              have tr125_1044 := zsm_at hz125 1044 w 0 (by decide)
              try simp only [zuI_1, zuI_2, zuJ_1, zuJ_2, zuJ_3, zuP_1, zuP_2, zuP_3, zuC_1, zuC_2, reduceIte, Nat.reduceEqDiff, false_and, and_false, true_and, and_true, and_self, or_true, true_or, or_false, false_or] at tr125_1044
              have tr125_1045 := zsm_at hz125 1045 w 0 (by decide)
              try simp only [zuI_1, zuI_2, zuJ_1, zuJ_2, zuJ_3, zuP_1, zuP_2, zuP_3, zuC_1, zuC_2, reduceIte, Nat.reduceEqDiff, false_and, and_false, true_and, and_true, and_self, or_true, true_or, or_false, false_or] at tr125_1045
              have tr125_1046 := zsm_at hz125 1046 w 0 (by decide)
              try simp only [zuI_1, zuI_2, zuJ_1, zuJ_2, zuJ_3, zuP_1, zuP_2, zuP_3, zuC_1, zuC_2, reduceIte, Nat.reduceEqDiff, false_and, and_false, true_and, and_true, and_self, or_true, true_or, or_false, false_or] at tr125_1046
              have tr125_1021 := zsm_at hz125 1021 w 0 (by decide)
              try simp only [zuI_1, zuI_2, zuJ_1, zuJ_2, zuJ_3, zuP_1, zuP_2, zuP_3, zuC_1, zuC_2, reduceIte, Nat.reduceEqDiff, false_and, and_false, true_and, and_true, and_self, or_true, true_or, or_false, false_or] at tr125_1021
              have tr125_1007 := zsm_at hz125 1007 w 0 (by decide)
              try simp only [zuI_1, zuI_2, zuJ_1, zuJ_2, zuJ_3, zuP_1, zuP_2, zuP_3, zuC_1, zuC_2, reduceIte, Nat.reduceEqDiff, false_and, and_false, true_and, and_true, and_self, or_true, true_or, or_false, false_or] at tr125_1007
              have tr125_1010 := zsm_at hz125 1010 w 0 (by decide)
              try simp only [zuI_1, zuI_2, zuJ_1, zuJ_2, zuJ_3, zuP_1, zuP_2, zuP_3, zuC_1, zuC_2, reduceIte, Nat.reduceEqDiff, false_and, and_false, true_and, and_true, and_self, or_true, true_or, or_false, false_or] at tr125_1010
              have tr125_1006 := zsm_at hz125 1006 w 0 (by decide)
              try simp only [zuI_1, zuI_2, zuJ_1, zuJ_2, zuJ_3, zuP_1, zuP_2, zuP_3, zuC_1, zuC_2, reduceIte, Nat.reduceEqDiff, false_and, and_false, true_and, and_true, and_self, or_true, true_or, or_false, false_or] at tr125_1006
              have tr125_1008 := zsm_at hz125 1008 w 0 (by decide)
              try simp only [zuI_1, zuI_2, zuJ_1, zuJ_2, zuJ_3, zuP_1, zuP_2, zuP_3, zuC_1, zuC_2, reduceIte, Nat.reduceEqDiff, false_and, and_false, true_and, and_true, and_self, or_true, true_or, or_false, false_or] at tr125_1008
              have tr125_1009 := zsm_at hz125 1009 w 0 (by decide)
              try simp only [zuI_1, zuI_2, zuJ_1, zuJ_2, zuJ_3, zuP_1, zuP_2, zuP_3, zuC_1, zuC_2, reduceIte, Nat.reduceEqDiff, false_and, and_false, true_and, and_true, and_self, or_true, true_or, or_false, false_or] at tr125_1009
              exact zs_zret (pc := 128) C hr hlk dX9_leafRead_128 (by omega) ⟨by repeat (first | exact zsm_rf | assumption | refine zsm_C (by decide) ?_ | refine zsm_I (by decide) ?_ | refine zsm_J ?_ | refine zsm_c (by assumption) (by decide) ?_), ⟨by omega, (by repeat (first | assumption | refine MI_I (by decide) ?_ | refine MI_J ?_ | refine MI_sm (by assumption) (by decide) ?_ | refine MI_sn (by assumption) (by decide) ?_)), fun q => by first | (exfalso; omega) | exact ⟨hTI, hPI, by omega⟩⟩⟩
        · skip
          refine zs_aload_n (pc := 103) C dX9_leafRead_103 rfl ?_
          refine zs_iconst (pc := 104) C dX9_leafRead_104 (by decide) ?_
          refine zVi1 (pc := 105) C dX9_leafRead_105 v_X9_220 (c_X9_wrong hX ) (by decide) (by decide) ⟨Nat.zero_le _, Nat.zero_le _⟩ (Nat.le_of_ble_eq_true rfl) (fun x105 G105 l105 u105 hp105 => ?_)
          obtain ⟨hz105, hq105⟩ := hp105
          have tr105_1042 := zsm_at hz105 1042 w 0 (by decide)
          try simp only [zuI_1, zuI_2, zuJ_1, zuJ_2, zuJ_3, zuP_1, zuP_2, zuP_3, zuC_1, zuC_2, reduceIte, Nat.reduceEqDiff, false_and, and_false, true_and, and_true, and_self, or_true, true_or, or_false, false_or] at tr105_1042
          have tr105_1043 := zsm_at hz105 1043 w 0 (by decide)
          try simp only [zuI_1, zuI_2, zuJ_1, zuJ_2, zuJ_3, zuP_1, zuP_2, zuP_3, zuC_1, zuC_2, reduceIte, Nat.reduceEqDiff, false_and, and_false, true_and, and_true, and_self, or_true, true_or, or_false, false_or] at tr105_1043
          have tr105_1044 := zsm_at hz105 1044 w 0 (by decide)
          try simp only [zuI_1, zuI_2, zuJ_1, zuJ_2, zuJ_3, zuP_1, zuP_2, zuP_3, zuC_1, zuC_2, reduceIte, Nat.reduceEqDiff, false_and, and_false, true_and, and_true, and_self, or_true, true_or, or_false, false_or] at tr105_1044
          have tr105_1045 := zsm_at hz105 1045 w 0 (by decide)
          try simp only [zuI_1, zuI_2, zuJ_1, zuJ_2, zuJ_3, zuP_1, zuP_2, zuP_3, zuC_1, zuC_2, reduceIte, Nat.reduceEqDiff, false_and, and_false, true_and, and_true, and_self, or_true, true_or, or_false, false_or] at tr105_1045
          have tr105_1046 := zsm_at hz105 1046 w 0 (by decide)
          try simp only [zuI_1, zuI_2, zuJ_1, zuJ_2, zuJ_3, zuP_1, zuP_2, zuP_3, zuC_1, zuC_2, reduceIte, Nat.reduceEqDiff, false_and, and_false, true_and, and_true, and_self, or_true, true_or, or_false, false_or] at tr105_1046
          have tr105_1021 := zsm_at hz105 1021 w 0 (by decide)
          try simp only [zuI_1, zuI_2, zuJ_1, zuJ_2, zuJ_3, zuP_1, zuP_2, zuP_3, zuC_1, zuC_2, reduceIte, Nat.reduceEqDiff, false_and, and_false, true_and, and_true, and_self, or_true, true_or, or_false, false_or] at tr105_1021
          have tr105_1007 := zsm_at hz105 1007 w 0 (by decide)
          try simp only [zuI_1, zuI_2, zuJ_1, zuJ_2, zuJ_3, zuP_1, zuP_2, zuP_3, zuC_1, zuC_2, reduceIte, Nat.reduceEqDiff, false_and, and_false, true_and, and_true, and_self, or_true, true_or, or_false, false_or] at tr105_1007
          have tr105_1010 := zsm_at hz105 1010 w 0 (by decide)
          try simp only [zuI_1, zuI_2, zuJ_1, zuJ_2, zuJ_3, zuP_1, zuP_2, zuP_3, zuC_1, zuC_2, reduceIte, Nat.reduceEqDiff, false_and, and_false, true_and, and_true, and_self, or_true, true_or, or_false, false_or] at tr105_1010
          have tr105_1006 := zsm_at hz105 1006 w 0 (by decide)
          try simp only [zuI_1, zuI_2, zuJ_1, zuJ_2, zuJ_3, zuP_1, zuP_2, zuP_3, zuC_1, zuC_2, reduceIte, Nat.reduceEqDiff, false_and, and_false, true_and, and_true, and_self, or_true, true_or, or_false, false_or] at tr105_1006
          have tr105_1008 := zsm_at hz105 1008 w 0 (by decide)
          try simp only [zuI_1, zuI_2, zuJ_1, zuJ_2, zuJ_3, zuP_1, zuP_2, zuP_3, zuC_1, zuC_2, reduceIte, Nat.reduceEqDiff, false_and, and_false, true_and, and_true, and_self, or_true, true_or, or_false, false_or] at tr105_1008
          have tr105_1009 := zsm_at hz105 1009 w 0 (by decide)
          try simp only [zuI_1, zuI_2, zuJ_1, zuJ_2, zuJ_3, zuP_1, zuP_2, zuP_3, zuC_1, zuC_2, reduceIte, Nat.reduceEqDiff, false_and, and_false, true_and, and_true, and_self, or_true, true_or, or_false, false_or] at tr105_1009
          exact zs_zret (pc := 108) C hr hlk dX9_leafRead_108 (by omega) ⟨by repeat (first | exact zsm_rf | assumption | refine zsm_C (by decide) ?_ | refine zsm_I (by decide) ?_ | refine zsm_J ?_ | refine zsm_c (by assumption) (by decide) ?_), ⟨by omega, (by repeat (first | assumption | refine MI_I (by decide) ?_ | refine MI_J ?_ | refine MI_sm (by assumption) (by decide) ?_ | refine MI_sn (by assumption) (by decide) ?_)), fun q => by first | (exfalso; omega) | exact ⟨hTI, hPI, by omega⟩⟩⟩
    refine zs_aload_n (pc := 50) C dX9_leafRead_50 rfl ?_
    refine zs_bipush (pc := 51) C dX9_leafRead_51 (by decide) (by decide) ?_
    refine zVip1 (pc := 53) C dX9_leafRead_53 v_X9_288 (c_X9_isKey hX ) (by decide) (by decide) ⟨Nat.zero_le _, Nat.zero_le _⟩ (Nat.le_of_ble_eq_true rfl) (fun x53 l53 u53 hp53 => ?_)
    have hq53 := hp53
    refine zs_if_eq (tgt := 86) (pc := 56) C dX9_leafRead_56 (by decide) (fun h56 => ?_) (fun h56 => ?_)
    · skip
      exact zs_wk (J86 _ rfl) (zwk_s rfl (zwk_n zwk_0))
    · skip
      refine zs_aload_n (pc := 59) C dX9_leafRead_59 rfl ?_
      refine zs_getz (r := 1047) (pc := 60) C dX9_leafRead_60 w_X9_335 f_10_47 rfl (r_1047 0) (fun v60 e60 l60 u60 => ?_)
      refine zs_if_eq (tgt := 86) (pc := 63) C dX9_leafRead_63 (by decide) (fun h63 => ?_) (fun h63 => ?_)
      · skip
        exact zs_wk (J86 _ rfl) (zwk_s rfl (zwk_n zwk_0))
      · skip
        refine zs_aload_n (pc := 66) C dX9_leafRead_66 rfl ?_
        refine zVi0 (pc := 67) C dX9_leafRead_67 v_X9_339 (c_X9_isCounted hX ) (by decide) (by decide) ⟨Nat.zero_le _, Nat.zero_le _⟩ (Nat.le_of_ble_eq_true rfl) (fun x67 G67 l67 u67 hp67 => ?_)
        obtain ⟨hz67, hq67⟩ := hp67
        have tr67_1042 := zsm_at hz67 1042 w 0 (by decide)
        try simp only [zuI_1, zuI_2, zuJ_1, zuJ_2, zuJ_3, zuP_1, zuP_2, zuP_3, zuC_1, zuC_2, reduceIte, Nat.reduceEqDiff, false_and, and_false, true_and, and_true, and_self, or_true, true_or, or_false, false_or] at tr67_1042
        have tr67_1043 := zsm_at hz67 1043 w 0 (by decide)
        try simp only [zuI_1, zuI_2, zuJ_1, zuJ_2, zuJ_3, zuP_1, zuP_2, zuP_3, zuC_1, zuC_2, reduceIte, Nat.reduceEqDiff, false_and, and_false, true_and, and_true, and_self, or_true, true_or, or_false, false_or] at tr67_1043
        have tr67_1044 := zsm_at hz67 1044 w 0 (by decide)
        try simp only [zuI_1, zuI_2, zuJ_1, zuJ_2, zuJ_3, zuP_1, zuP_2, zuP_3, zuC_1, zuC_2, reduceIte, Nat.reduceEqDiff, false_and, and_false, true_and, and_true, and_self, or_true, true_or, or_false, false_or] at tr67_1044
        have tr67_1046 := zsm_at hz67 1046 w 0 (by decide)
        try simp only [zuI_1, zuI_2, zuJ_1, zuJ_2, zuJ_3, zuP_1, zuP_2, zuP_3, zuC_1, zuC_2, reduceIte, Nat.reduceEqDiff, false_and, and_false, true_and, and_true, and_self, or_true, true_or, or_false, false_or] at tr67_1046
        have tr67_1021 := zsm_at hz67 1021 w 0 (by decide)
        try simp only [zuI_1, zuI_2, zuJ_1, zuJ_2, zuJ_3, zuP_1, zuP_2, zuP_3, zuC_1, zuC_2, reduceIte, Nat.reduceEqDiff, false_and, and_false, true_and, and_true, and_self, or_true, true_or, or_false, false_or] at tr67_1021
        have tr67_1007 := zsm_at hz67 1007 w 0 (by decide)
        try simp only [zuI_1, zuI_2, zuJ_1, zuJ_2, zuJ_3, zuP_1, zuP_2, zuP_3, zuC_1, zuC_2, reduceIte, Nat.reduceEqDiff, false_and, and_false, true_and, and_true, and_self, or_true, true_or, or_false, false_or] at tr67_1007
        have tr67_1010 := zsm_at hz67 1010 w 0 (by decide)
        try simp only [zuI_1, zuI_2, zuJ_1, zuJ_2, zuJ_3, zuP_1, zuP_2, zuP_3, zuC_1, zuC_2, reduceIte, Nat.reduceEqDiff, false_and, and_false, true_and, and_true, and_self, or_true, true_or, or_false, false_or] at tr67_1010
        have tr67_1006 := zsm_at hz67 1006 w 0 (by decide)
        try simp only [zuI_1, zuI_2, zuJ_1, zuJ_2, zuJ_3, zuP_1, zuP_2, zuP_3, zuC_1, zuC_2, reduceIte, Nat.reduceEqDiff, false_and, and_false, true_and, and_true, and_self, or_true, true_or, or_false, false_or] at tr67_1006
        have tr67_1008 := zsm_at hz67 1008 w 0 (by decide)
        try simp only [zuI_1, zuI_2, zuJ_1, zuJ_2, zuJ_3, zuP_1, zuP_2, zuP_3, zuC_1, zuC_2, reduceIte, Nat.reduceEqDiff, false_and, and_false, true_and, and_true, and_self, or_true, true_or, or_false, false_or] at tr67_1008
        have tr67_1009 := zsm_at hz67 1009 w 0 (by decide)
        try simp only [zuI_1, zuI_2, zuJ_1, zuJ_2, zuJ_3, zuP_1, zuP_2, zuP_3, zuC_1, zuC_2, reduceIte, Nat.reduceEqDiff, false_and, and_false, true_and, and_true, and_self, or_true, true_or, or_false, false_or] at tr67_1009
        refine zs_if_ne (tgt := 75) (pc := 70) C dX9_leafRead_70 (by decide) (fun h70 => ?_) (fun h70 => ?_)
        · skip
          refine zs_aload_n (pc := 75) C dX9_leafRead_75 rfl ?_
          refine zs_iconst (pc := 76) C dX9_leafRead_76 (by decide) ?_
          refine zVv1 (pc := 77) C dX9_leafRead_77 v_X9_331 (c_X9_waitsFor hX (by omega) (by omega)) (by decide) (by decide) ⟨Nat.zero_le _, Nat.zero_le _⟩ (Nat.le_of_ble_eq_true rfl) (fun G77 hp77 => ?_)
          obtain ⟨hz77, hq77⟩ := hp77
          have tr77_1043 := zsm_at hz77 1043 w 0 (by decide)
          try simp only [zuI_1, zuI_2, zuJ_1, zuJ_2, zuJ_3, zuP_1, zuP_2, zuP_3, zuC_1, zuC_2, reduceIte, Nat.reduceEqDiff, false_and, and_false, true_and, and_true, and_self, or_true, true_or, or_false, false_or] at tr77_1043
          have tr77_1044 := zsm_at hz77 1044 w 0 (by decide)
          try simp only [zuI_1, zuI_2, zuJ_1, zuJ_2, zuJ_3, zuP_1, zuP_2, zuP_3, zuC_1, zuC_2, reduceIte, Nat.reduceEqDiff, false_and, and_false, true_and, and_true, and_self, or_true, true_or, or_false, false_or] at tr77_1044
          have tr77_1045 := zsm_at hz77 1045 w 0 (by decide)
          try simp only [zuI_1, zuI_2, zuJ_1, zuJ_2, zuJ_3, zuP_1, zuP_2, zuP_3, zuC_1, zuC_2, reduceIte, Nat.reduceEqDiff, false_and, and_false, true_and, and_true, and_self, or_true, true_or, or_false, false_or] at tr77_1045
          have tr77_1046 := zsm_at hz77 1046 w 0 (by decide)
          try simp only [zuI_1, zuI_2, zuJ_1, zuJ_2, zuJ_3, zuP_1, zuP_2, zuP_3, zuC_1, zuC_2, reduceIte, Nat.reduceEqDiff, false_and, and_false, true_and, and_true, and_self, or_true, true_or, or_false, false_or] at tr77_1046
          have tr77_1021 := zsm_at hz77 1021 w 0 (by decide)
          try simp only [zuI_1, zuI_2, zuJ_1, zuJ_2, zuJ_3, zuP_1, zuP_2, zuP_3, zuC_1, zuC_2, reduceIte, Nat.reduceEqDiff, false_and, and_false, true_and, and_true, and_self, or_true, true_or, or_false, false_or] at tr77_1021
          have tr77_1007 := zsm_at hz77 1007 w 0 (by decide)
          try simp only [zuI_1, zuI_2, zuJ_1, zuJ_2, zuJ_3, zuP_1, zuP_2, zuP_3, zuC_1, zuC_2, reduceIte, Nat.reduceEqDiff, false_and, and_false, true_and, and_true, and_self, or_true, true_or, or_false, false_or] at tr77_1007
          have tr77_1010 := zsm_at hz77 1010 w 0 (by decide)
          try simp only [zuI_1, zuI_2, zuJ_1, zuJ_2, zuJ_3, zuP_1, zuP_2, zuP_3, zuC_1, zuC_2, reduceIte, Nat.reduceEqDiff, false_and, and_false, true_and, and_true, and_self, or_true, true_or, or_false, false_or] at tr77_1010
          have tr77_1006 := zsm_at hz77 1006 w 0 (by decide)
          try simp only [zuI_1, zuI_2, zuJ_1, zuJ_2, zuJ_3, zuP_1, zuP_2, zuP_3, zuC_1, zuC_2, reduceIte, Nat.reduceEqDiff, false_and, and_false, true_and, and_true, and_self, or_true, true_or, or_false, false_or] at tr77_1006
          have tr77_1008 := zsm_at hz77 1008 w 0 (by decide)
          try simp only [zuI_1, zuI_2, zuJ_1, zuJ_2, zuJ_3, zuP_1, zuP_2, zuP_3, zuC_1, zuC_2, reduceIte, Nat.reduceEqDiff, false_and, and_false, true_and, and_true, and_self, or_true, true_or, or_false, false_or] at tr77_1008
          have tr77_1009 := zsm_at hz77 1009 w 0 (by decide)
          try simp only [zuI_1, zuI_2, zuJ_1, zuJ_2, zuJ_3, zuP_1, zuP_2, zuP_3, zuC_1, zuC_2, reduceIte, Nat.reduceEqDiff, false_and, and_false, true_and, and_true, and_self, or_true, true_or, or_false, false_or] at tr77_1009
          rw [hz67.1 2077 (by decide), tr67_1042] at hq77
          refine zs_aload_n (pc := 80) C dX9_leafRead_80 rfl ?_
          refine zVv0 (pc := 81) C dX9_leafRead_81 v_X9_230 (c_X9_token hX (by omega)) (by decide) (by decide) ⟨Nat.zero_le _, Nat.zero_le _⟩ (Nat.le_of_ble_eq_true rfl) (fun G81 hp81 => ?_)
          obtain ⟨hz81, hq81⟩ := hp81
          have tr81_1042 := zsm_at hz81 1042 w 0 (by decide)
          try simp only [zuI_1, zuI_2, zuJ_1, zuJ_2, zuJ_3, zuP_1, zuP_2, zuP_3, zuC_1, zuC_2, reduceIte, Nat.reduceEqDiff, false_and, and_false, true_and, and_true, and_self, or_true, true_or, or_false, false_or] at tr81_1042
          have tr81_1043 := zsm_at hz81 1043 w 0 (by decide)
          try simp only [zuI_1, zuI_2, zuJ_1, zuJ_2, zuJ_3, zuP_1, zuP_2, zuP_3, zuC_1, zuC_2, reduceIte, Nat.reduceEqDiff, false_and, and_false, true_and, and_true, and_self, or_true, true_or, or_false, false_or] at tr81_1043
          have tr81_1044 := zsm_at hz81 1044 w 0 (by decide)
          try simp only [zuI_1, zuI_2, zuJ_1, zuJ_2, zuJ_3, zuP_1, zuP_2, zuP_3, zuC_1, zuC_2, reduceIte, Nat.reduceEqDiff, false_and, and_false, true_and, and_true, and_self, or_true, true_or, or_false, false_or] at tr81_1044
          have tr81_1045 := zsm_at hz81 1045 w 0 (by decide)
          try simp only [zuI_1, zuI_2, zuJ_1, zuJ_2, zuJ_3, zuP_1, zuP_2, zuP_3, zuC_1, zuC_2, reduceIte, Nat.reduceEqDiff, false_and, and_false, true_and, and_true, and_self, or_true, true_or, or_false, false_or] at tr81_1045
          have tr81_1046 := zsm_at hz81 1046 w 0 (by decide)
          try simp only [zuI_1, zuI_2, zuJ_1, zuJ_2, zuJ_3, zuP_1, zuP_2, zuP_3, zuC_1, zuC_2, reduceIte, Nat.reduceEqDiff, false_and, and_false, true_and, and_true, and_self, or_true, true_or, or_false, false_or] at tr81_1046
          have tr81_1021 := zsm_at hz81 1021 w 0 (by decide)
          try simp only [zuI_1, zuI_2, zuJ_1, zuJ_2, zuJ_3, zuP_1, zuP_2, zuP_3, zuC_1, zuC_2, reduceIte, Nat.reduceEqDiff, false_and, and_false, true_and, and_true, and_self, or_true, true_or, or_false, false_or] at tr81_1021
          have tr81_1006 := zsm_at hz81 1006 w 0 (by decide)
          try simp only [zuI_1, zuI_2, zuJ_1, zuJ_2, zuJ_3, zuP_1, zuP_2, zuP_3, zuC_1, zuC_2, reduceIte, Nat.reduceEqDiff, false_and, and_false, true_and, and_true, and_self, or_true, true_or, or_false, false_or] at tr81_1006
          have hTI := hq81.1
          have e77 : G81.1 2077 = G77.1 2077 := by exact hz81.1 2077 (by decide)
          have e42 : G81.1 1042 w 0 = G.1 1042 w 0 + 1 := by omega
          have hPI : PI Γ w G81 := by
            unfold PI
            rw [e77, e42]
            exact ⟨by omega, by omega, by omega, fun q => by omega⟩
          refine zs_iconst (pc := 84) C dX9_leafRead_84 (by decide) ?_
          exact zs_zret (pc := 85) C hr hlk dX9_leafRead_85 (by omega) ⟨by repeat (first | exact zsm_rf | assumption | refine zsm_C (by decide) ?_ | refine zsm_I (by decide) ?_ | refine zsm_J ?_ | refine zsm_c (by assumption) (by decide) ?_), ⟨by omega, (by repeat (first | assumption | refine MI_I (by decide) ?_ | refine MI_J ?_ | refine MI_sm (by assumption) (by decide) ?_ | refine MI_sn (by assumption) (by decide) ?_)), fun q => by first | (exfalso; omega) | exact ⟨hTI, hPI, by omega⟩⟩⟩
        · skip
          refine zs_iconst (pc := 73) C dX9_leafRead_73 (by decide) ?_
          exact zs_zret (pc := 74) C hr hlk dX9_leafRead_74 (by omega) ⟨by repeat (first | exact zsm_rf | assumption | refine zsm_C (by decide) ?_ | refine zsm_I (by decide) ?_ | refine zsm_J ?_ | refine zsm_c (by assumption) (by decide) ?_), ⟨by omega, (by repeat (first | assumption | refine MI_I (by decide) ?_ | refine MI_J ?_ | refine MI_sm (by assumption) (by decide) ?_ | refine MI_sn (by assumption) (by decide) ?_)), fun q => by first | (exfalso; omega) | exact ⟨hTI, hPI, by omega⟩⟩⟩
  · skip
    refine zs_aload_n (pc := 9) C dX9_leafRead_9 rfl ?_
    refine zs_geti (r := 1044) (pc := 10) C dX9_leafRead_10 w_X9_328 f_10_44 rfl (r_1044 0) (fun v10 e10 l10 u10 => ?_)
    refine zs_bipush (pc := 13) C dX9_leafRead_13 (by decide) (by decide) ?_
    refine zs_icmp_ne (tgt := 24) (pc := 15) C dX9_leafRead_15 (by decide) (fun h15 => ?_) (fun h15 => ?_)
    · skip
      refine zs_aload_n (pc := 24) C dX9_leafRead_24 rfl ?_
      refine zs_dupa (pc := 25) C dX9_leafRead_25 ?_
      refine zs_geti (r := 1044) (pc := 26) C dX9_leafRead_26 w_X9_328 f_10_44 rfl (r_1044 0) (fun v26 e26 l26 u26 => ?_)
      refine zs_iconst (pc := 29) C dX9_leafRead_29 (by decide) ?_
      first | refine zs_iadd (pc := 30) C dX9_leafRead_30 (by omega) ?_ | refine zs_iaddF (pc := 30) C dX9_leafRead_30 (fun z30 hz301 hz302 => ?_)
      refine zs_puti (r := 1044) (pc := 31) C dX9_leafRead_31 w_X9_328 f_10_44 rfl (r_1044 0) (by omega) ?_
      refine zs_aload_n (pc := 34) C dX9_leafRead_34 rfl ?_
      refine zs_iconst (pc := 35) C dX9_leafRead_35 (by decide) ?_
      refine zVv1 (pc := 36) C dX9_leafRead_36 v_X9_331 (c_X9_waitsFor hX (by first | omega | (simp only [zuI_1, zuI_2, zuJ_1, zuJ_2, zuJ_3, zuP_1, zuP_2, zuP_3, zuC_1, zuC_2, reduceIte, Nat.reduceEqDiff, false_and, and_false, true_and, and_true, and_self, or_true, true_or, or_false, false_or]; omega)) (by first | omega | (simp only [zuI_1, zuI_2, zuJ_1, zuJ_2, zuJ_3, zuP_1, zuP_2, zuP_3, zuC_1, zuC_2, reduceIte, Nat.reduceEqDiff, false_and, and_false, true_and, and_true, and_self, or_true, true_or, or_false, false_or]; omega))) (by decide) (by decide) ⟨Nat.zero_le _, Nat.zero_le _⟩ (Nat.le_of_ble_eq_true rfl) (fun G36 hp36 => ?_)
      obtain ⟨hz36, hq36⟩ := hp36
      try simp only [zuI_1, zuI_2, zuJ_1, zuJ_2, zuJ_3, zuP_1, zuP_2, zuP_3, zuC_1, zuC_2, reduceIte, Nat.reduceEqDiff, false_and, and_false, true_and, and_true, and_self, or_true, true_or, or_false, false_or] at hq36
      have tr36_1043 := zsm_at hz36 1043 w 0 (by decide)
      try simp only [zuI_1, zuI_2, zuJ_1, zuJ_2, zuJ_3, zuP_1, zuP_2, zuP_3, zuC_1, zuC_2, reduceIte, Nat.reduceEqDiff, false_and, and_false, true_and, and_true, and_self, or_true, true_or, or_false, false_or] at tr36_1043
      have tr36_1044 := zsm_at hz36 1044 w 0 (by decide)
      try simp only [zuI_1, zuI_2, zuJ_1, zuJ_2, zuJ_3, zuP_1, zuP_2, zuP_3, zuC_1, zuC_2, reduceIte, Nat.reduceEqDiff, false_and, and_false, true_and, and_true, and_self, or_true, true_or, or_false, false_or] at tr36_1044
      have tr36_1045 := zsm_at hz36 1045 w 0 (by decide)
      try simp only [zuI_1, zuI_2, zuJ_1, zuJ_2, zuJ_3, zuP_1, zuP_2, zuP_3, zuC_1, zuC_2, reduceIte, Nat.reduceEqDiff, false_and, and_false, true_and, and_true, and_self, or_true, true_or, or_false, false_or] at tr36_1045
      have tr36_1046 := zsm_at hz36 1046 w 0 (by decide)
      try simp only [zuI_1, zuI_2, zuJ_1, zuJ_2, zuJ_3, zuP_1, zuP_2, zuP_3, zuC_1, zuC_2, reduceIte, Nat.reduceEqDiff, false_and, and_false, true_and, and_true, and_self, or_true, true_or, or_false, false_or] at tr36_1046
      have tr36_1021 := zsm_at hz36 1021 w 0 (by decide)
      try simp only [zuI_1, zuI_2, zuJ_1, zuJ_2, zuJ_3, zuP_1, zuP_2, zuP_3, zuC_1, zuC_2, reduceIte, Nat.reduceEqDiff, false_and, and_false, true_and, and_true, and_self, or_true, true_or, or_false, false_or] at tr36_1021
      have tr36_1007 := zsm_at hz36 1007 w 0 (by decide)
      try simp only [zuI_1, zuI_2, zuJ_1, zuJ_2, zuJ_3, zuP_1, zuP_2, zuP_3, zuC_1, zuC_2, reduceIte, Nat.reduceEqDiff, false_and, and_false, true_and, and_true, and_self, or_true, true_or, or_false, false_or] at tr36_1007
      have tr36_1010 := zsm_at hz36 1010 w 0 (by decide)
      try simp only [zuI_1, zuI_2, zuJ_1, zuJ_2, zuJ_3, zuP_1, zuP_2, zuP_3, zuC_1, zuC_2, reduceIte, Nat.reduceEqDiff, false_and, and_false, true_and, and_true, and_self, or_true, true_or, or_false, false_or] at tr36_1010
      have tr36_1006 := zsm_at hz36 1006 w 0 (by decide)
      try simp only [zuI_1, zuI_2, zuJ_1, zuJ_2, zuJ_3, zuP_1, zuP_2, zuP_3, zuC_1, zuC_2, reduceIte, Nat.reduceEqDiff, false_and, and_false, true_and, and_true, and_self, or_true, true_or, or_false, false_or] at tr36_1006
      have tr36_1008 := zsm_at hz36 1008 w 0 (by decide)
      try simp only [zuI_1, zuI_2, zuJ_1, zuJ_2, zuJ_3, zuP_1, zuP_2, zuP_3, zuC_1, zuC_2, reduceIte, Nat.reduceEqDiff, false_and, and_false, true_and, and_true, and_self, or_true, true_or, or_false, false_or] at tr36_1008
      have tr36_1009 := zsm_at hz36 1009 w 0 (by decide)
      try simp only [zuI_1, zuI_2, zuJ_1, zuJ_2, zuJ_3, zuP_1, zuP_2, zuP_3, zuC_1, zuC_2, reduceIte, Nat.reduceEqDiff, false_and, and_false, true_and, and_true, and_self, or_true, true_or, or_false, false_or] at tr36_1009
      rw [zuI_ne (show (2077 : Nat) ≠ 1044 by decide)] at hq36
      refine zs_aload_n (pc := 39) C dX9_leafRead_39 rfl ?_
      refine zs_iconst (pc := 40) C dX9_leafRead_40 (by decide) ?_
      refine zs_putz (r := 1047) (pc := 41) C dX9_leafRead_41 w_X9_335 f_10_47 rfl (r_1047 0) (by omega) (by omega) ?_
      refine zs_aload_n (pc := 44) C dX9_leafRead_44 rfl ?_
      refine zVv0 (pc := 45) C dX9_leafRead_45 v_X9_230 (c_X9_token hX (by first | omega | (simp only [zuI_1, zuI_2, zuJ_1, zuJ_2, zuJ_3, zuP_1, zuP_2, zuP_3, zuC_1, zuC_2, reduceIte, Nat.reduceEqDiff, false_and, and_false, true_and, and_true, and_self, or_true, true_or, or_false, false_or]; omega))) (by decide) (by decide) ⟨Nat.zero_le _, Nat.zero_le _⟩ (Nat.le_of_ble_eq_true rfl) (fun G45 hp45 => ?_)
      obtain ⟨hz45, hq45⟩ := hp45
      try simp only [zuI_1, zuI_2, zuJ_1, zuJ_2, zuJ_3, zuP_1, zuP_2, zuP_3, zuC_1, zuC_2, reduceIte, Nat.reduceEqDiff, false_and, and_false, true_and, and_true, and_self, or_true, true_or, or_false, false_or] at hq45
      have tr45_1042 := zsm_at hz45 1042 w 0 (by decide)
      try simp only [zuI_1, zuI_2, zuJ_1, zuJ_2, zuJ_3, zuP_1, zuP_2, zuP_3, zuC_1, zuC_2, reduceIte, Nat.reduceEqDiff, false_and, and_false, true_and, and_true, and_self, or_true, true_or, or_false, false_or] at tr45_1042
      have tr45_1043 := zsm_at hz45 1043 w 0 (by decide)
      try simp only [zuI_1, zuI_2, zuJ_1, zuJ_2, zuJ_3, zuP_1, zuP_2, zuP_3, zuC_1, zuC_2, reduceIte, Nat.reduceEqDiff, false_and, and_false, true_and, and_true, and_self, or_true, true_or, or_false, false_or] at tr45_1043
      have tr45_1044 := zsm_at hz45 1044 w 0 (by decide)
      try simp only [zuI_1, zuI_2, zuJ_1, zuJ_2, zuJ_3, zuP_1, zuP_2, zuP_3, zuC_1, zuC_2, reduceIte, Nat.reduceEqDiff, false_and, and_false, true_and, and_true, and_self, or_true, true_or, or_false, false_or] at tr45_1044
      have tr45_1045 := zsm_at hz45 1045 w 0 (by decide)
      try simp only [zuI_1, zuI_2, zuJ_1, zuJ_2, zuJ_3, zuP_1, zuP_2, zuP_3, zuC_1, zuC_2, reduceIte, Nat.reduceEqDiff, false_and, and_false, true_and, and_true, and_self, or_true, true_or, or_false, false_or] at tr45_1045
      have tr45_1046 := zsm_at hz45 1046 w 0 (by decide)
      try simp only [zuI_1, zuI_2, zuJ_1, zuJ_2, zuJ_3, zuP_1, zuP_2, zuP_3, zuC_1, zuC_2, reduceIte, Nat.reduceEqDiff, false_and, and_false, true_and, and_true, and_self, or_true, true_or, or_false, false_or] at tr45_1046
      have tr45_1021 := zsm_at hz45 1021 w 0 (by decide)
      try simp only [zuI_1, zuI_2, zuJ_1, zuJ_2, zuJ_3, zuP_1, zuP_2, zuP_3, zuC_1, zuC_2, reduceIte, Nat.reduceEqDiff, false_and, and_false, true_and, and_true, and_self, or_true, true_or, or_false, false_or] at tr45_1021
      have tr45_1006 := zsm_at hz45 1006 w 0 (by decide)
      try simp only [zuI_1, zuI_2, zuJ_1, zuJ_2, zuJ_3, zuP_1, zuP_2, zuP_3, zuC_1, zuC_2, reduceIte, Nat.reduceEqDiff, false_and, and_false, true_and, and_true, and_self, or_true, true_or, or_false, false_or] at tr45_1006
      have hTI := hq45.1
      have e77 : G45.1 2077 = G36.1 2077 := by rw [hz45.1 2077 (by decide), zuI_ne (show (2077 : Nat) ≠ 1047 by decide)]
      have e42 : G45.1 1042 w 0 = G.1 1042 w 0 + 1 := by omega
      have hPI : PI Γ w G45 := by
        unfold PI
        rw [e77, e42]
        exact ⟨by omega, by omega, by omega, fun q => by omega⟩
      refine zs_iconst (pc := 48) C dX9_leafRead_48 (by decide) ?_
      exact zs_zret (pc := 49) C hr hlk dX9_leafRead_49 (by omega) ⟨by repeat (first | exact zsm_rf | assumption | refine zsm_C (by decide) ?_ | refine zsm_I (by decide) ?_ | refine zsm_J ?_ | refine zsm_c (by assumption) (by decide) ?_), ⟨by omega, (by repeat (first | assumption | refine MI_I (by decide) ?_ | refine MI_J ?_ | refine MI_sm (by assumption) (by decide) ?_ | refine MI_sn (by assumption) (by decide) ?_)), fun q => by first | (exfalso; omega) | exact ⟨hTI, hPI, by omega⟩⟩⟩
    · skip
      refine zs_aload_n (pc := 18) C dX9_leafRead_18 rfl ?_
      refine zs_iconst (pc := 19) C dX9_leafRead_19 (by decide) ?_
      refine zVi1 (pc := 20) C dX9_leafRead_20 v_X9_220 (c_X9_wrong hX ) (by decide) (by decide) ⟨Nat.zero_le _, Nat.zero_le _⟩ (Nat.le_of_ble_eq_true rfl) (fun x20 G20 l20 u20 hp20 => ?_)
      obtain ⟨hz20, hq20⟩ := hp20
      have tr20_1042 := zsm_at hz20 1042 w 0 (by decide)
      try simp only [zuI_1, zuI_2, zuJ_1, zuJ_2, zuJ_3, zuP_1, zuP_2, zuP_3, zuC_1, zuC_2, reduceIte, Nat.reduceEqDiff, false_and, and_false, true_and, and_true, and_self, or_true, true_or, or_false, false_or] at tr20_1042
      have tr20_1043 := zsm_at hz20 1043 w 0 (by decide)
      try simp only [zuI_1, zuI_2, zuJ_1, zuJ_2, zuJ_3, zuP_1, zuP_2, zuP_3, zuC_1, zuC_2, reduceIte, Nat.reduceEqDiff, false_and, and_false, true_and, and_true, and_self, or_true, true_or, or_false, false_or] at tr20_1043
      have tr20_1044 := zsm_at hz20 1044 w 0 (by decide)
      try simp only [zuI_1, zuI_2, zuJ_1, zuJ_2, zuJ_3, zuP_1, zuP_2, zuP_3, zuC_1, zuC_2, reduceIte, Nat.reduceEqDiff, false_and, and_false, true_and, and_true, and_self, or_true, true_or, or_false, false_or] at tr20_1044
      have tr20_1045 := zsm_at hz20 1045 w 0 (by decide)
      try simp only [zuI_1, zuI_2, zuJ_1, zuJ_2, zuJ_3, zuP_1, zuP_2, zuP_3, zuC_1, zuC_2, reduceIte, Nat.reduceEqDiff, false_and, and_false, true_and, and_true, and_self, or_true, true_or, or_false, false_or] at tr20_1045
      have tr20_1046 := zsm_at hz20 1046 w 0 (by decide)
      try simp only [zuI_1, zuI_2, zuJ_1, zuJ_2, zuJ_3, zuP_1, zuP_2, zuP_3, zuC_1, zuC_2, reduceIte, Nat.reduceEqDiff, false_and, and_false, true_and, and_true, and_self, or_true, true_or, or_false, false_or] at tr20_1046
      have tr20_1021 := zsm_at hz20 1021 w 0 (by decide)
      try simp only [zuI_1, zuI_2, zuJ_1, zuJ_2, zuJ_3, zuP_1, zuP_2, zuP_3, zuC_1, zuC_2, reduceIte, Nat.reduceEqDiff, false_and, and_false, true_and, and_true, and_self, or_true, true_or, or_false, false_or] at tr20_1021
      have tr20_1007 := zsm_at hz20 1007 w 0 (by decide)
      try simp only [zuI_1, zuI_2, zuJ_1, zuJ_2, zuJ_3, zuP_1, zuP_2, zuP_3, zuC_1, zuC_2, reduceIte, Nat.reduceEqDiff, false_and, and_false, true_and, and_true, and_self, or_true, true_or, or_false, false_or] at tr20_1007
      have tr20_1010 := zsm_at hz20 1010 w 0 (by decide)
      try simp only [zuI_1, zuI_2, zuJ_1, zuJ_2, zuJ_3, zuP_1, zuP_2, zuP_3, zuC_1, zuC_2, reduceIte, Nat.reduceEqDiff, false_and, and_false, true_and, and_true, and_self, or_true, true_or, or_false, false_or] at tr20_1010
      have tr20_1006 := zsm_at hz20 1006 w 0 (by decide)
      try simp only [zuI_1, zuI_2, zuJ_1, zuJ_2, zuJ_3, zuP_1, zuP_2, zuP_3, zuC_1, zuC_2, reduceIte, Nat.reduceEqDiff, false_and, and_false, true_and, and_true, and_self, or_true, true_or, or_false, false_or] at tr20_1006
      have tr20_1008 := zsm_at hz20 1008 w 0 (by decide)
      try simp only [zuI_1, zuI_2, zuJ_1, zuJ_2, zuJ_3, zuP_1, zuP_2, zuP_3, zuC_1, zuC_2, reduceIte, Nat.reduceEqDiff, false_and, and_false, true_and, and_true, and_self, or_true, true_or, or_false, false_or] at tr20_1008
      have tr20_1009 := zsm_at hz20 1009 w 0 (by decide)
      try simp only [zuI_1, zuI_2, zuJ_1, zuJ_2, zuJ_3, zuP_1, zuP_2, zuP_3, zuC_1, zuC_2, reduceIte, Nat.reduceEqDiff, false_and, and_false, true_and, and_true, and_self, or_true, true_or, or_false, false_or] at tr20_1009
      exact zs_zret (pc := 23) C hr hlk dX9_leafRead_23 (by omega) ⟨by repeat (first | exact zsm_rf | assumption | refine zsm_C (by decide) ?_ | refine zsm_I (by decide) ?_ | refine zsm_J ?_ | refine zsm_c (by assumption) (by decide) ?_), ⟨by omega, (by repeat (first | assumption | refine MI_I (by decide) ?_ | refine MI_J ?_ | refine MI_sm (by assumption) (by decide) ?_ | refine MI_sn (by assumption) (by decide) ?_)), fun q => by first | (exfalso; omega) | exact ⟨hTI, hPI, by omega⟩⟩⟩

set_option maxHeartbeats 4000000 in
set_option maxRecDepth 100000 in
theorem c_X9_signs {l : Launch} {Γ : zΓ} {G : zH} {w : Nat}  (hX : zXs Γ) (hM : MI Γ w G)(hT : TI w G) (hQ : PI Γ w G) (hw : G.1 1046 w 0 = 0) : zMet l Γ yX9_signs cX9_signs 2 (some .boolean) 2 [zr 10 w] G (zpi (fun x G' => zsm [1007, 1008, 1009, 1010, 1004, 1005, 2074, 2075, 2076, 2078, 1043, 1021, 2077, 1042, 1044, 1045, 1046, 1047] G G' ∧ ((x = 0 ∨ x = 1) ∧ MI Γ w G' ∧ (x = 1 → TI w G' ∧ PI Γ w G' ∧ G.1 1010 w 0 < G'.1 1010 w 0)))) := by
  have t1 := hT.1
  have t3 := hT.2.2.1
  have t5 := hT.2.2.2.1
  have t6 := hT.2.2.2.2.1
  have t7 := hT.2.2.2.2.2
  have p1 := hQ.1
  have p2 := hQ.2.1
  have p3 := hQ.2.2.1
  have p4 := hQ.2.2.2
  have k3 := c3_le (G.1 2077 (Γ.2.1 w 40)) (G.1 1042 w 0).toNat
  have k0 := c0_le (G.1 2077 (Γ.2.1 w 40)) (G.1 1042 w 0).toNat
  refine zMet_of RX9 hX (by decide) rfl (Nat.le_of_ble_eq_true rfl) ?_
  intro p e s m args below meth c C hr hlk
  show Z p l e (zrm 2) s m args below meth c Γ 2 0 0 (MQ below (zQc Γ (zpi (fun x G' => zsm [1007, 1008, 1009, 1010, 1004, 1005, 2074, 2075, 2076, 2078, 1043, 1021, 2077, 1042, 1044, 1045, 1046, 1047] G G' ∧ ((x = 0 ∨ x = 1) ∧ MI Γ w G' ∧ (x = 1 → TI w G' ∧ PI Γ w G' ∧ G.1 1010 w 0 < G'.1 1010 w 0))))) args s 0 0 (zA Γ)) 0 [some (zr 10 w), none] [] G
  refine zs_good (fun hGdg => ?_)
  have hbg_1042 := hGdg.1 1042 w 0
  rw [r_1042] at hbg_1042
  have hbg_1044 := hGdg.1 1044 w 0
  rw [r_1044] at hbg_1044
  have hbg_1045 := hGdg.1 1045 w 0
  rw [r_1045] at hbg_1045
  have hbg_1021 := hGdg.1 1021 w 0
  rw [r_1021] at hbg_1021
  refine zs_aload_n (pc := 0) C dX9_signs_0 rfl ?_
  have J47 : ∀ (G0 : zH), (G0 = G) → Z p l e (zrm 2) s m args below meth c Γ 2 0 0 (MQ below (zQc Γ (zpi (fun x G' => zsm [1007, 1008, 1009, 1010, 1004, 1005, 2074, 2075, 2076, 2078, 1043, 1021, 2077, 1042, 1044, 1045, 1046, 1047] G G' ∧ ((x = 0 ∨ x = 1) ∧ MI Γ w G' ∧ (x = 1 → TI w G' ∧ PI Γ w G' ∧ G.1 1010 w 0 < G'.1 1010 w 0))))) args s 0 0 (zA Γ)) 47 [some (zr 10 w), none] [] G0 := by
    intro G0 h47_0
    rw [h47_0]
    refine zs_aload_n (pc := 47) C dX9_signs_47 rfl ?_
    have J147 : ∀ (k : Int), (k = 0 ∨ (3 ≤ k ∧ k ≤ 14 ∧ G.1 1008 w 0 ≠ 0)) → Z p l e (zrm 2) s m args below meth c Γ 2 0 0 (MQ below (zQc Γ (zpi (fun x G' => zsm [1007, 1008, 1009, 1010, 1004, 1005, 2074, 2075, 2076, 2078, 1043, 1021, 2077, 1042, 1044, 1045, 1046, 1047] G G' ∧ ((x = 0 ∨ x = 1) ∧ MI Γ w G' ∧ (x = 1 → TI w G' ∧ PI Γ w G' ∧ G.1 1010 w 0 < G'.1 1010 w 0))))) args s 0 0 (zA Γ)) 147 [some (zr 10 w), none] [zi k] G := by
      intro k h147_0
      refine zs_istore_n (pc := 147) C dX9_signs_147 (by decide) ?_
      dsimp only [zset, zclr, znone]
      refine zs_iload_n (pc := 148) C dX9_signs_148 rfl ?_
      refine zs_if_ne (tgt := 158) (pc := 149) C dX9_signs_149 (by decide) (fun h149 => ?_) (fun h149 => ?_)
      · skip
        have J175 : ∀ (r : Int), (1 ≤ r) → Z p l e (zrm 2) s m args below meth c Γ 2 0 0 (MQ below (zQc Γ (zpi (fun x G' => zsm [1007, 1008, 1009, 1010, 1004, 1005, 2074, 2075, 2076, 2078, 1043, 1021, 2077, 1042, 1044, 1045, 1046, 1047] G G' ∧ ((x = 0 ∨ x = 1) ∧ MI Γ w G' ∧ (x = 1 → TI w G' ∧ PI Γ w G' ∧ G.1 1010 w 0 < G'.1 1010 w 0))))) args s 0 0 (zA Γ)) 175 [some (zr 10 w), some (zi k)] [zi r, zr 10 w] G := by
          intro r h175_0
          refine zVv1 (pc := 175) C dX9_signs_175 v_X9_348 (c_X9_bind hX (by repeat (first | assumption | refine MI_I (by decide) ?_ | refine MI_J ?_ | refine MI_sm (by assumption) (by decide) ?_ | refine MI_sn (by assumption) (by decide) ?_)) (by repeat (first | assumption | refine PI_I (by decide) ?_ | refine PI_sm (by assumption) (by decide) ?_)) (by omega) (by omega)) (by decide) (by decide) ⟨Nat.zero_le _, Nat.zero_le _⟩ (Nat.le_of_ble_eq_true rfl) (fun G175 hp175 => ?_)
          obtain ⟨hz175, hq175⟩ := hp175
          have tr175_1044 := zsm_at hz175 1044 w 0 (by decide)
          try simp only [zuI_1, zuI_2, zuJ_1, zuJ_2, zuJ_3, zuP_1, zuP_2, zuP_3, zuC_1, zuC_2, reduceIte, Nat.reduceEqDiff, false_and, and_false, true_and, and_true, and_self, or_true, true_or, or_false, false_or] at tr175_1044
          have tr175_1045 := zsm_at hz175 1045 w 0 (by decide)
          try simp only [zuI_1, zuI_2, zuJ_1, zuJ_2, zuJ_3, zuP_1, zuP_2, zuP_3, zuC_1, zuC_2, reduceIte, Nat.reduceEqDiff, false_and, and_false, true_and, and_true, and_self, or_true, true_or, or_false, false_or] at tr175_1045
          have tr175_1046 := zsm_at hz175 1046 w 0 (by decide)
          try simp only [zuI_1, zuI_2, zuJ_1, zuJ_2, zuJ_3, zuP_1, zuP_2, zuP_3, zuC_1, zuC_2, reduceIte, Nat.reduceEqDiff, false_and, and_false, true_and, and_true, and_self, or_true, true_or, or_false, false_or] at tr175_1046
          have tr175_1007 := zsm_at hz175 1007 w 0 (by decide)
          try simp only [zuI_1, zuI_2, zuJ_1, zuJ_2, zuJ_3, zuP_1, zuP_2, zuP_3, zuC_1, zuC_2, reduceIte, Nat.reduceEqDiff, false_and, and_false, true_and, and_true, and_self, or_true, true_or, or_false, false_or] at tr175_1007
          have tr175_1010 := zsm_at hz175 1010 w 0 (by decide)
          try simp only [zuI_1, zuI_2, zuJ_1, zuJ_2, zuJ_3, zuP_1, zuP_2, zuP_3, zuC_1, zuC_2, reduceIte, Nat.reduceEqDiff, false_and, and_false, true_and, and_true, and_self, or_true, true_or, or_false, false_or] at tr175_1010
          have tr175_1006 := zsm_at hz175 1006 w 0 (by decide)
          try simp only [zuI_1, zuI_2, zuJ_1, zuJ_2, zuJ_3, zuP_1, zuP_2, zuP_3, zuC_1, zuC_2, reduceIte, Nat.reduceEqDiff, false_and, and_false, true_and, and_true, and_self, or_true, true_or, or_false, false_or] at tr175_1006
          have tr175_1008 := zsm_at hz175 1008 w 0 (by decide)
          try simp only [zuI_1, zuI_2, zuJ_1, zuJ_2, zuJ_3, zuP_1, zuP_2, zuP_3, zuC_1, zuC_2, reduceIte, Nat.reduceEqDiff, false_and, and_false, true_and, and_true, and_self, or_true, true_or, or_false, false_or] at tr175_1008
          have tr175_1009 := zsm_at hz175 1009 w 0 (by decide)
          try simp only [zuI_1, zuI_2, zuJ_1, zuJ_2, zuJ_3, zuP_1, zuP_2, zuP_3, zuC_1, zuC_2, reduceIte, Nat.reduceEqDiff, false_and, and_false, true_and, and_true, and_self, or_true, true_or, or_false, false_or] at tr175_1009
          have hMI := hq175.1
          have hPI175 := hq175.2.1
          have p1b := hPI175.1
          have p2b := hPI175.2.1
          have p3b := hPI175.2.2.1
          have p4b := hPI175.2.2.2
          have k3b := c3_le (G175.1 2077 (Γ.2.1 w 40)) (G175.1 1042 w 0).toNat
          have k0b := c0_le (G175.1 2077 (Γ.2.1 w 40)) (G175.1 1042 w 0).toNat
          refine zs_good (fun hGdh => ?_)
          have hbh_1042 := hGdh.1 1042 w 0
          rw [r_1042] at hbh_1042
          have hbh_1044 := hGdh.1 1044 w 0
          rw [r_1044] at hbh_1044
          have hbh_1045 := hGdh.1 1045 w 0
          rw [r_1045] at hbh_1045
          have hbh_1021 := hGdh.1 1021 w 0
          rw [r_1021] at hbh_1021
          refine zs_iload_n (pc := 178) C dX9_signs_178 rfl ?_
          have J217 : ∀ (G0 : zH), (G0 = G175) → Z p l e (zrm 2) s m args below meth c Γ 2 0 0 (MQ below (zQc Γ (zpi (fun x G' => zsm [1007, 1008, 1009, 1010, 1004, 1005, 2074, 2075, 2076, 2078, 1043, 1021, 2077, 1042, 1044, 1045, 1046, 1047] G G' ∧ ((x = 0 ∨ x = 1) ∧ MI Γ w G' ∧ (x = 1 → TI w G' ∧ PI Γ w G' ∧ G.1 1010 w 0 < G'.1 1010 w 0))))) args s 0 0 (zA Γ)) 217 [some (zr 10 w), some (zi k)] [] G0 := by
            intro G0 h217_0
            rw [h217_0]
            refine zs_aload_n (pc := 217) C dX9_signs_217 rfl ?_
            refine zVi0 (pc := 218) C dX9_signs_218 v_X9_339 (c_X9_isCounted hX ) (by decide) (by decide) ⟨Nat.zero_le _, Nat.zero_le _⟩ (Nat.le_of_ble_eq_true rfl) (fun x218 G218 l218 u218 hp218 => ?_)
            obtain ⟨hz218, hq218⟩ := hp218
            have tr218_1042 := zsm_at hz218 1042 w 0 (by decide)
            try simp only [zuI_1, zuI_2, zuJ_1, zuJ_2, zuJ_3, zuP_1, zuP_2, zuP_3, zuC_1, zuC_2, reduceIte, Nat.reduceEqDiff, false_and, and_false, true_and, and_true, and_self, or_true, true_or, or_false, false_or] at tr218_1042
            have tr218_1043 := zsm_at hz218 1043 w 0 (by decide)
            try simp only [zuI_1, zuI_2, zuJ_1, zuJ_2, zuJ_3, zuP_1, zuP_2, zuP_3, zuC_1, zuC_2, reduceIte, Nat.reduceEqDiff, false_and, and_false, true_and, and_true, and_self, or_true, true_or, or_false, false_or] at tr218_1043
            have tr218_1044 := zsm_at hz218 1044 w 0 (by decide)
            try simp only [zuI_1, zuI_2, zuJ_1, zuJ_2, zuJ_3, zuP_1, zuP_2, zuP_3, zuC_1, zuC_2, reduceIte, Nat.reduceEqDiff, false_and, and_false, true_and, and_true, and_self, or_true, true_or, or_false, false_or] at tr218_1044
            have tr218_1046 := zsm_at hz218 1046 w 0 (by decide)
            try simp only [zuI_1, zuI_2, zuJ_1, zuJ_2, zuJ_3, zuP_1, zuP_2, zuP_3, zuC_1, zuC_2, reduceIte, Nat.reduceEqDiff, false_and, and_false, true_and, and_true, and_self, or_true, true_or, or_false, false_or] at tr218_1046
            have tr218_1021 := zsm_at hz218 1021 w 0 (by decide)
            try simp only [zuI_1, zuI_2, zuJ_1, zuJ_2, zuJ_3, zuP_1, zuP_2, zuP_3, zuC_1, zuC_2, reduceIte, Nat.reduceEqDiff, false_and, and_false, true_and, and_true, and_self, or_true, true_or, or_false, false_or] at tr218_1021
            have tr218_1007 := zsm_at hz218 1007 w 0 (by decide)
            try simp only [zuI_1, zuI_2, zuJ_1, zuJ_2, zuJ_3, zuP_1, zuP_2, zuP_3, zuC_1, zuC_2, reduceIte, Nat.reduceEqDiff, false_and, and_false, true_and, and_true, and_self, or_true, true_or, or_false, false_or] at tr218_1007
            have tr218_1010 := zsm_at hz218 1010 w 0 (by decide)
            try simp only [zuI_1, zuI_2, zuJ_1, zuJ_2, zuJ_3, zuP_1, zuP_2, zuP_3, zuC_1, zuC_2, reduceIte, Nat.reduceEqDiff, false_and, and_false, true_and, and_true, and_self, or_true, true_or, or_false, false_or] at tr218_1010
            have tr218_1006 := zsm_at hz218 1006 w 0 (by decide)
            try simp only [zuI_1, zuI_2, zuJ_1, zuJ_2, zuJ_3, zuP_1, zuP_2, zuP_3, zuC_1, zuC_2, reduceIte, Nat.reduceEqDiff, false_and, and_false, true_and, and_true, and_self, or_true, true_or, or_false, false_or] at tr218_1006
            have tr218_1008 := zsm_at hz218 1008 w 0 (by decide)
            try simp only [zuI_1, zuI_2, zuJ_1, zuJ_2, zuJ_3, zuP_1, zuP_2, zuP_3, zuC_1, zuC_2, reduceIte, Nat.reduceEqDiff, false_and, and_false, true_and, and_true, and_self, or_true, true_or, or_false, false_or] at tr218_1008
            have tr218_1009 := zsm_at hz218 1009 w 0 (by decide)
            try simp only [zuI_1, zuI_2, zuJ_1, zuJ_2, zuJ_3, zuP_1, zuP_2, zuP_3, zuC_1, zuC_2, reduceIte, Nat.reduceEqDiff, false_and, and_false, true_and, and_true, and_self, or_true, true_or, or_false, false_or] at tr218_1009
            refine zs_if_ne (tgt := 226) (pc := 221) C dX9_signs_221 (by decide) (fun h221 => ?_) (fun h221 => ?_)
            · skip
              refine zs_aload_n (pc := 226) C dX9_signs_226 rfl ?_
              refine zs_iload_n (pc := 227) C dX9_signs_227 rfl ?_
              refine zVv1 (pc := 228) C dX9_signs_228 v_X9_331 (c_X9_waitsFor hX (by omega) (by omega)) (by decide) (by decide) ⟨Nat.zero_le _, Nat.zero_le _⟩ (Nat.le_of_ble_eq_true rfl) (fun G228 hp228 => ?_)
              obtain ⟨hz228, hq228⟩ := hp228
              have tr228_1043 := zsm_at hz228 1043 w 0 (by decide)
              try simp only [zuI_1, zuI_2, zuJ_1, zuJ_2, zuJ_3, zuP_1, zuP_2, zuP_3, zuC_1, zuC_2, reduceIte, Nat.reduceEqDiff, false_and, and_false, true_and, and_true, and_self, or_true, true_or, or_false, false_or] at tr228_1043
              have tr228_1044 := zsm_at hz228 1044 w 0 (by decide)
              try simp only [zuI_1, zuI_2, zuJ_1, zuJ_2, zuJ_3, zuP_1, zuP_2, zuP_3, zuC_1, zuC_2, reduceIte, Nat.reduceEqDiff, false_and, and_false, true_and, and_true, and_self, or_true, true_or, or_false, false_or] at tr228_1044
              have tr228_1045 := zsm_at hz228 1045 w 0 (by decide)
              try simp only [zuI_1, zuI_2, zuJ_1, zuJ_2, zuJ_3, zuP_1, zuP_2, zuP_3, zuC_1, zuC_2, reduceIte, Nat.reduceEqDiff, false_and, and_false, true_and, and_true, and_self, or_true, true_or, or_false, false_or] at tr228_1045
              have tr228_1046 := zsm_at hz228 1046 w 0 (by decide)
              try simp only [zuI_1, zuI_2, zuJ_1, zuJ_2, zuJ_3, zuP_1, zuP_2, zuP_3, zuC_1, zuC_2, reduceIte, Nat.reduceEqDiff, false_and, and_false, true_and, and_true, and_self, or_true, true_or, or_false, false_or] at tr228_1046
              have tr228_1021 := zsm_at hz228 1021 w 0 (by decide)
              try simp only [zuI_1, zuI_2, zuJ_1, zuJ_2, zuJ_3, zuP_1, zuP_2, zuP_3, zuC_1, zuC_2, reduceIte, Nat.reduceEqDiff, false_and, and_false, true_and, and_true, and_self, or_true, true_or, or_false, false_or] at tr228_1021
              have tr228_1007 := zsm_at hz228 1007 w 0 (by decide)
              try simp only [zuI_1, zuI_2, zuJ_1, zuJ_2, zuJ_3, zuP_1, zuP_2, zuP_3, zuC_1, zuC_2, reduceIte, Nat.reduceEqDiff, false_and, and_false, true_and, and_true, and_self, or_true, true_or, or_false, false_or] at tr228_1007
              have tr228_1010 := zsm_at hz228 1010 w 0 (by decide)
              try simp only [zuI_1, zuI_2, zuJ_1, zuJ_2, zuJ_3, zuP_1, zuP_2, zuP_3, zuC_1, zuC_2, reduceIte, Nat.reduceEqDiff, false_and, and_false, true_and, and_true, and_self, or_true, true_or, or_false, false_or] at tr228_1010
              have tr228_1006 := zsm_at hz228 1006 w 0 (by decide)
              try simp only [zuI_1, zuI_2, zuJ_1, zuJ_2, zuJ_3, zuP_1, zuP_2, zuP_3, zuC_1, zuC_2, reduceIte, Nat.reduceEqDiff, false_and, and_false, true_and, and_true, and_self, or_true, true_or, or_false, false_or] at tr228_1006
              have tr228_1008 := zsm_at hz228 1008 w 0 (by decide)
              try simp only [zuI_1, zuI_2, zuJ_1, zuJ_2, zuJ_3, zuP_1, zuP_2, zuP_3, zuC_1, zuC_2, reduceIte, Nat.reduceEqDiff, false_and, and_false, true_and, and_true, and_self, or_true, true_or, or_false, false_or] at tr228_1008
              have tr228_1009 := zsm_at hz228 1009 w 0 (by decide)
              try simp only [zuI_1, zuI_2, zuJ_1, zuJ_2, zuJ_3, zuP_1, zuP_2, zuP_3, zuC_1, zuC_2, reduceIte, Nat.reduceEqDiff, false_and, and_false, true_and, and_true, and_self, or_true, true_or, or_false, false_or] at tr228_1009
              rw [hz218.1 2077 (by decide), tr218_1042] at hq228
              refine zs_aload_n (pc := 231) C dX9_signs_231 rfl ?_
              refine zs_iconst (pc := 232) C dX9_signs_232 (by decide) ?_
              refine zs_putz (r := 1046) (pc := 233) C dX9_signs_233 w_X9_345 f_10_46 rfl (r_1046 0) (by omega) (by omega) ?_
              refine zs_aload_n (pc := 236) C dX9_signs_236 rfl ?_
              refine zs_iload_n (pc := 237) C dX9_signs_237 rfl ?_
              refine zSip1 (pc := 238) C dX9_signs_238 s_X9_316 (c_X9_rank hX ) (by decide) ⟨Nat.zero_le _, Nat.zero_le _⟩ (Nat.le_of_ble_eq_true rfl) (fun x238 l238 u238 hp238 => ?_)
              have hq238 := hp238
              try simp only [zuI_1, zuI_2, zuJ_1, zuJ_2, zuJ_3, zuP_1, zuP_2, zuP_3, zuC_1, zuC_2, reduceIte, Nat.reduceEqDiff, false_and, and_false, true_and, and_true, and_self, or_true, true_or, or_false, false_or] at hq238
              refine zs_iconst (pc := 241) C dX9_signs_241 (by decide) ?_
              refine zs_icmp_ge (tgt := 249) (pc := 242) C dX9_signs_242 (by decide) (fun h242 => ?_) (fun h242 => ?_)
              · skip
                refine zs_iconst (pc := 249) C dX9_signs_249 (by decide) ?_
                refine zs_putz (r := 1047) (pc := 250) C dX9_signs_250 w_X9_335 f_10_47 rfl (r_1047 0) (by omega) (by omega) ?_
                refine zs_aload_n (pc := 253) C dX9_signs_253 rfl ?_
                refine zVv0 (pc := 254) C dX9_signs_254 v_X9_230 (c_X9_token hX (by first | omega | (simp only [zuI_1, zuI_2, zuJ_1, zuJ_2, zuJ_3, zuP_1, zuP_2, zuP_3, zuC_1, zuC_2, reduceIte, Nat.reduceEqDiff, false_and, and_false, true_and, and_true, and_self, or_true, true_or, or_false, false_or]; omega))) (by decide) (by decide) ⟨Nat.zero_le _, Nat.zero_le _⟩ (Nat.le_of_ble_eq_true rfl) (fun G254 hp254 => ?_)
                obtain ⟨hz254, hq254⟩ := hp254
                try simp only [zuI_1, zuI_2, zuJ_1, zuJ_2, zuJ_3, zuP_1, zuP_2, zuP_3, zuC_1, zuC_2, reduceIte, Nat.reduceEqDiff, false_and, and_false, true_and, and_true, and_self, or_true, true_or, or_false, false_or] at hq254
                have tr254_1042 := zsm_at hz254 1042 w 0 (by decide)
                try simp only [zuI_1, zuI_2, zuJ_1, zuJ_2, zuJ_3, zuP_1, zuP_2, zuP_3, zuC_1, zuC_2, reduceIte, Nat.reduceEqDiff, false_and, and_false, true_and, and_true, and_self, or_true, true_or, or_false, false_or] at tr254_1042
                have tr254_1043 := zsm_at hz254 1043 w 0 (by decide)
                try simp only [zuI_1, zuI_2, zuJ_1, zuJ_2, zuJ_3, zuP_1, zuP_2, zuP_3, zuC_1, zuC_2, reduceIte, Nat.reduceEqDiff, false_and, and_false, true_and, and_true, and_self, or_true, true_or, or_false, false_or] at tr254_1043
                have tr254_1044 := zsm_at hz254 1044 w 0 (by decide)
                try simp only [zuI_1, zuI_2, zuJ_1, zuJ_2, zuJ_3, zuP_1, zuP_2, zuP_3, zuC_1, zuC_2, reduceIte, Nat.reduceEqDiff, false_and, and_false, true_and, and_true, and_self, or_true, true_or, or_false, false_or] at tr254_1044
                have tr254_1045 := zsm_at hz254 1045 w 0 (by decide)
                try simp only [zuI_1, zuI_2, zuJ_1, zuJ_2, zuJ_3, zuP_1, zuP_2, zuP_3, zuC_1, zuC_2, reduceIte, Nat.reduceEqDiff, false_and, and_false, true_and, and_true, and_self, or_true, true_or, or_false, false_or] at tr254_1045
                have tr254_1046 := zsm_at hz254 1046 w 0 (by decide)
                try simp only [zuI_1, zuI_2, zuJ_1, zuJ_2, zuJ_3, zuP_1, zuP_2, zuP_3, zuC_1, zuC_2, reduceIte, Nat.reduceEqDiff, false_and, and_false, true_and, and_true, and_self, or_true, true_or, or_false, false_or] at tr254_1046
                have tr254_1021 := zsm_at hz254 1021 w 0 (by decide)
                try simp only [zuI_1, zuI_2, zuJ_1, zuJ_2, zuJ_3, zuP_1, zuP_2, zuP_3, zuC_1, zuC_2, reduceIte, Nat.reduceEqDiff, false_and, and_false, true_and, and_true, and_self, or_true, true_or, or_false, false_or] at tr254_1021
                have tr254_1006 := zsm_at hz254 1006 w 0 (by decide)
                try simp only [zuI_1, zuI_2, zuJ_1, zuJ_2, zuJ_3, zuP_1, zuP_2, zuP_3, zuC_1, zuC_2, reduceIte, Nat.reduceEqDiff, false_and, and_false, true_and, and_true, and_self, or_true, true_or, or_false, false_or] at tr254_1006
                have hTI := hq254.1
                have e77 : G254.1 2077 = G228.1 2077 := by rw [hz254.1 2077 (by decide), zuI_ne (show (2077 : Nat) ≠ 1047 by decide), zuI_ne (show (2077 : Nat) ≠ 1046 by decide)]
                have e42 : G254.1 1042 w 0 = G175.1 1042 w 0 + 1 := by omega
                have hPI : PI Γ w G254 := by
                  unfold PI
                  rw [e77, e42]
                  exact ⟨by omega, by omega, by omega, fun q => by omega⟩
                refine zs_iconst (pc := 257) C dX9_signs_257 (by decide) ?_
                exact zs_zret (pc := 258) C hr hlk dX9_signs_258 (by omega) ⟨by repeat (first | exact zsm_rf | assumption | refine zsm_C (by decide) ?_ | refine zsm_I (by decide) ?_ | refine zsm_J ?_ | refine zsm_c (by assumption) (by decide) ?_), ⟨by omega, (by repeat (first | assumption | refine MI_I (by decide) ?_ | refine MI_J ?_ | refine MI_sm (by assumption) (by decide) ?_ | refine MI_sn (by assumption) (by decide) ?_)), fun q => by first | (exfalso; omega) | exact ⟨hTI, hPI, by omega⟩⟩⟩
              · skip
                refine zs_iconst (pc := 245) C dX9_signs_245 (by decide) ?_
                refine zs_goto (tgt := 250) (pc := 246) C dX9_signs_246 (by decide) ?_
                refine zs_putz (r := 1047) (pc := 250) C dX9_signs_250 w_X9_335 f_10_47 rfl (r_1047 0) (by omega) (by omega) ?_
                refine zs_aload_n (pc := 253) C dX9_signs_253 rfl ?_
                refine zVv0 (pc := 254) C dX9_signs_254 v_X9_230 (c_X9_token hX (by first | omega | (simp only [zuI_1, zuI_2, zuJ_1, zuJ_2, zuJ_3, zuP_1, zuP_2, zuP_3, zuC_1, zuC_2, reduceIte, Nat.reduceEqDiff, false_and, and_false, true_and, and_true, and_self, or_true, true_or, or_false, false_or]; omega))) (by decide) (by decide) ⟨Nat.zero_le _, Nat.zero_le _⟩ (Nat.le_of_ble_eq_true rfl) (fun G254 hp254 => ?_)
                obtain ⟨hz254, hq254⟩ := hp254
                try simp only [zuI_1, zuI_2, zuJ_1, zuJ_2, zuJ_3, zuP_1, zuP_2, zuP_3, zuC_1, zuC_2, reduceIte, Nat.reduceEqDiff, false_and, and_false, true_and, and_true, and_self, or_true, true_or, or_false, false_or] at hq254
                have tr254_1042 := zsm_at hz254 1042 w 0 (by decide)
                try simp only [zuI_1, zuI_2, zuJ_1, zuJ_2, zuJ_3, zuP_1, zuP_2, zuP_3, zuC_1, zuC_2, reduceIte, Nat.reduceEqDiff, false_and, and_false, true_and, and_true, and_self, or_true, true_or, or_false, false_or] at tr254_1042
                have tr254_1043 := zsm_at hz254 1043 w 0 (by decide)
                try simp only [zuI_1, zuI_2, zuJ_1, zuJ_2, zuJ_3, zuP_1, zuP_2, zuP_3, zuC_1, zuC_2, reduceIte, Nat.reduceEqDiff, false_and, and_false, true_and, and_true, and_self, or_true, true_or, or_false, false_or] at tr254_1043
                have tr254_1044 := zsm_at hz254 1044 w 0 (by decide)
                try simp only [zuI_1, zuI_2, zuJ_1, zuJ_2, zuJ_3, zuP_1, zuP_2, zuP_3, zuC_1, zuC_2, reduceIte, Nat.reduceEqDiff, false_and, and_false, true_and, and_true, and_self, or_true, true_or, or_false, false_or] at tr254_1044
                have tr254_1045 := zsm_at hz254 1045 w 0 (by decide)
                try simp only [zuI_1, zuI_2, zuJ_1, zuJ_2, zuJ_3, zuP_1, zuP_2, zuP_3, zuC_1, zuC_2, reduceIte, Nat.reduceEqDiff, false_and, and_false, true_and, and_true, and_self, or_true, true_or, or_false, false_or] at tr254_1045
                have tr254_1046 := zsm_at hz254 1046 w 0 (by decide)
                try simp only [zuI_1, zuI_2, zuJ_1, zuJ_2, zuJ_3, zuP_1, zuP_2, zuP_3, zuC_1, zuC_2, reduceIte, Nat.reduceEqDiff, false_and, and_false, true_and, and_true, and_self, or_true, true_or, or_false, false_or] at tr254_1046
                have tr254_1021 := zsm_at hz254 1021 w 0 (by decide)
                try simp only [zuI_1, zuI_2, zuJ_1, zuJ_2, zuJ_3, zuP_1, zuP_2, zuP_3, zuC_1, zuC_2, reduceIte, Nat.reduceEqDiff, false_and, and_false, true_and, and_true, and_self, or_true, true_or, or_false, false_or] at tr254_1021
                have tr254_1006 := zsm_at hz254 1006 w 0 (by decide)
                try simp only [zuI_1, zuI_2, zuJ_1, zuJ_2, zuJ_3, zuP_1, zuP_2, zuP_3, zuC_1, zuC_2, reduceIte, Nat.reduceEqDiff, false_and, and_false, true_and, and_true, and_self, or_true, true_or, or_false, false_or] at tr254_1006
                have hTI := hq254.1
                have e77 : G254.1 2077 = G228.1 2077 := by rw [hz254.1 2077 (by decide), zuI_ne (show (2077 : Nat) ≠ 1047 by decide), zuI_ne (show (2077 : Nat) ≠ 1046 by decide)]
                have e42 : G254.1 1042 w 0 = G175.1 1042 w 0 + 1 := by omega
                have hPI : PI Γ w G254 := by
                  unfold PI
                  rw [e77, e42]
                  exact ⟨by omega, by omega, by omega, fun q => by omega⟩
                refine zs_iconst (pc := 257) C dX9_signs_257 (by decide) ?_
                exact zs_zret (pc := 258) C hr hlk dX9_signs_258 (by omega) ⟨by repeat (first | exact zsm_rf | assumption | refine zsm_C (by decide) ?_ | refine zsm_I (by decide) ?_ | refine zsm_J ?_ | refine zsm_c (by assumption) (by decide) ?_), ⟨by omega, (by repeat (first | assumption | refine MI_I (by decide) ?_ | refine MI_J ?_ | refine MI_sm (by assumption) (by decide) ?_ | refine MI_sn (by assumption) (by decide) ?_)), fun q => by first | (exfalso; omega) | exact ⟨hTI, hPI, by omega⟩⟩⟩
            · skip
              refine zs_iconst (pc := 224) C dX9_signs_224 (by decide) ?_
              exact zs_zret (pc := 225) C hr hlk dX9_signs_225 (by omega) ⟨by repeat (first | exact zsm_rf | assumption | refine zsm_C (by decide) ?_ | refine zsm_I (by decide) ?_ | refine zsm_J ?_ | refine zsm_c (by assumption) (by decide) ?_), ⟨by omega, (by repeat (first | assumption | refine MI_I (by decide) ?_ | refine MI_J ?_ | refine MI_sm (by assumption) (by decide) ?_ | refine MI_sn (by assumption) (by decide) ?_)), fun q => by first | (exfalso; omega) | exact ⟨hTI, hPI, by omega⟩⟩⟩
          refine zSip1 (pc := 179) C dX9_signs_179 s_X9_316 (c_X9_rank hX ) (by decide) ⟨Nat.zero_le _, Nat.zero_le _⟩ (Nat.le_of_ble_eq_true rfl) (fun x179 l179 u179 hp179 => ?_)
          have hq179 := hp179
          refine zs_iconst (pc := 182) C dX9_signs_182 (by decide) ?_
          refine zs_icmp_ne (tgt := 217) (pc := 183) C dX9_signs_183 (by decide) (fun h183 => ?_) (fun h183 => ?_)
          · skip
            exact zs_wk (J217 _ rfl) (zwk_s rfl (zwk_s rfl zwk_0))
          · skip
            refine zs_aload_n (pc := 186) C dX9_signs_186 rfl ?_
            refine zs_geti (r := 1042) (pc := 187) C dX9_signs_187 w_X9_313 f_10_42 rfl (r_1042 0) (fun v187 e187 l187 u187 => ?_)
            refine zs_if_le (tgt := 217) (pc := 190) C dX9_signs_190 (by decide) (fun h190 => ?_) (fun h190 => ?_)
            · skip
              exact zs_wk (J217 _ rfl) (zwk_s rfl (zwk_s rfl zwk_0))
            · skip
              refine zs_aload_n (pc := 193) C dX9_signs_193 rfl ?_
              refine zs_getf (pc := 194) C dX9_signs_194 w_X9_75 f_10_40 (by decide) ?_
              refine zs_aload_n (pc := 197) C dX9_signs_197 rfl ?_
              refine zs_geti (r := 1042) (pc := 198) C dX9_signs_198 w_X9_313 f_10_42 rfl (r_1042 0) (fun v198 e198 l198 u198 => ?_)
              refine zs_iconst (pc := 201) C dX9_signs_201 (by decide) ?_
              first | refine zs_isub (pc := 202) C dX9_signs_202 (by omega) ?_ | refine zs_isubF (pc := 202) C dX9_signs_202 (fun z202 hz2021 hz2022 => ?_)
              refine zs_iald (r := 2077) (pc := 203) C dX9_signs_203 a_77 (by decide) (by omega) rfl (r_2077 _) (fun v203 e203 l203 u203 => ?_)
              refine zSip1 (pc := 204) C dX9_signs_204 s_X9_316 (c_X9_rank hX ) (by decide) ⟨Nat.zero_le _, Nat.zero_le _⟩ (Nat.le_of_ble_eq_true rfl) (fun x204 l204 u204 hp204 => ?_)
              have hq204 := hp204
              refine zs_iconst (pc := 207) C dX9_signs_207 (by decide) ?_
              refine zs_icmp_ne (tgt := 217) (pc := 208) C dX9_signs_208 (by decide) (fun h208 => ?_) (fun h208 => ?_)
              · skip
                exact zs_wk (J217 _ rfl) (zwk_s rfl (zwk_s rfl zwk_0))
              · skip
                refine zs_aload_n (pc := 211) C dX9_signs_211 rfl ?_
                refine zs_iconst (pc := 212) C dX9_signs_212 (by decide) ?_
                refine zVi1 (pc := 213) C dX9_signs_213 v_X9_220 (c_X9_wrong hX ) (by decide) (by decide) ⟨Nat.zero_le _, Nat.zero_le _⟩ (Nat.le_of_ble_eq_true rfl) (fun x213 G213 l213 u213 hp213 => ?_)
                obtain ⟨hz213, hq213⟩ := hp213
                have tr213_1042 := zsm_at hz213 1042 w 0 (by decide)
                try simp only [zuI_1, zuI_2, zuJ_1, zuJ_2, zuJ_3, zuP_1, zuP_2, zuP_3, zuC_1, zuC_2, reduceIte, Nat.reduceEqDiff, false_and, and_false, true_and, and_true, and_self, or_true, true_or, or_false, false_or] at tr213_1042
                have tr213_1043 := zsm_at hz213 1043 w 0 (by decide)
                try simp only [zuI_1, zuI_2, zuJ_1, zuJ_2, zuJ_3, zuP_1, zuP_2, zuP_3, zuC_1, zuC_2, reduceIte, Nat.reduceEqDiff, false_and, and_false, true_and, and_true, and_self, or_true, true_or, or_false, false_or] at tr213_1043
                have tr213_1044 := zsm_at hz213 1044 w 0 (by decide)
                try simp only [zuI_1, zuI_2, zuJ_1, zuJ_2, zuJ_3, zuP_1, zuP_2, zuP_3, zuC_1, zuC_2, reduceIte, Nat.reduceEqDiff, false_and, and_false, true_and, and_true, and_self, or_true, true_or, or_false, false_or] at tr213_1044
                have tr213_1045 := zsm_at hz213 1045 w 0 (by decide)
                try simp only [zuI_1, zuI_2, zuJ_1, zuJ_2, zuJ_3, zuP_1, zuP_2, zuP_3, zuC_1, zuC_2, reduceIte, Nat.reduceEqDiff, false_and, and_false, true_and, and_true, and_self, or_true, true_or, or_false, false_or] at tr213_1045
                have tr213_1046 := zsm_at hz213 1046 w 0 (by decide)
                try simp only [zuI_1, zuI_2, zuJ_1, zuJ_2, zuJ_3, zuP_1, zuP_2, zuP_3, zuC_1, zuC_2, reduceIte, Nat.reduceEqDiff, false_and, and_false, true_and, and_true, and_self, or_true, true_or, or_false, false_or] at tr213_1046
                have tr213_1021 := zsm_at hz213 1021 w 0 (by decide)
                try simp only [zuI_1, zuI_2, zuJ_1, zuJ_2, zuJ_3, zuP_1, zuP_2, zuP_3, zuC_1, zuC_2, reduceIte, Nat.reduceEqDiff, false_and, and_false, true_and, and_true, and_self, or_true, true_or, or_false, false_or] at tr213_1021
                have tr213_1007 := zsm_at hz213 1007 w 0 (by decide)
                try simp only [zuI_1, zuI_2, zuJ_1, zuJ_2, zuJ_3, zuP_1, zuP_2, zuP_3, zuC_1, zuC_2, reduceIte, Nat.reduceEqDiff, false_and, and_false, true_and, and_true, and_self, or_true, true_or, or_false, false_or] at tr213_1007
                have tr213_1010 := zsm_at hz213 1010 w 0 (by decide)
                try simp only [zuI_1, zuI_2, zuJ_1, zuJ_2, zuJ_3, zuP_1, zuP_2, zuP_3, zuC_1, zuC_2, reduceIte, Nat.reduceEqDiff, false_and, and_false, true_and, and_true, and_self, or_true, true_or, or_false, false_or] at tr213_1010
                have tr213_1006 := zsm_at hz213 1006 w 0 (by decide)
                try simp only [zuI_1, zuI_2, zuJ_1, zuJ_2, zuJ_3, zuP_1, zuP_2, zuP_3, zuC_1, zuC_2, reduceIte, Nat.reduceEqDiff, false_and, and_false, true_and, and_true, and_self, or_true, true_or, or_false, false_or] at tr213_1006
                have tr213_1008 := zsm_at hz213 1008 w 0 (by decide)
                try simp only [zuI_1, zuI_2, zuJ_1, zuJ_2, zuJ_3, zuP_1, zuP_2, zuP_3, zuC_1, zuC_2, reduceIte, Nat.reduceEqDiff, false_and, and_false, true_and, and_true, and_self, or_true, true_or, or_false, false_or] at tr213_1008
                have tr213_1009 := zsm_at hz213 1009 w 0 (by decide)
                try simp only [zuI_1, zuI_2, zuJ_1, zuJ_2, zuJ_3, zuP_1, zuP_2, zuP_3, zuC_1, zuC_2, reduceIte, Nat.reduceEqDiff, false_and, and_false, true_and, and_true, and_self, or_true, true_or, or_false, false_or] at tr213_1009
                exact zs_zret (pc := 216) C hr hlk dX9_signs_216 (by omega) ⟨by repeat (first | exact zsm_rf | assumption | refine zsm_C (by decide) ?_ | refine zsm_I (by decide) ?_ | refine zsm_J ?_ | refine zsm_c (by assumption) (by decide) ?_), ⟨by omega, (by repeat (first | assumption | refine MI_I (by decide) ?_ | refine MI_J ?_ | refine MI_sm (by assumption) (by decide) ?_ | refine MI_sn (by assumption) (by decide) ?_)), fun q => by first | (exfalso; omega) | exact ⟨hTI, hPI, by omega⟩⟩⟩
        refine zs_aload_n (pc := 158) C dX9_signs_158 rfl ?_
        refine zs_iload_n (pc := 159) C dX9_signs_159 rfl ?_
        refine zSip1 (pc := 160) C dX9_signs_160 s_X9_316 (c_X9_rank hX ) (by decide) ⟨Nat.zero_le _, Nat.zero_le _⟩ (Nat.le_of_ble_eq_true rfl) (fun x160 l160 u160 hp160 => ?_)
        have hq160 := hp160
        refine zs_iconst (pc := 163) C dX9_signs_163 (by decide) ?_
        refine zs_icmp_ne (tgt := 171) (pc := 164) C dX9_signs_164 (by decide) (fun h164 => ?_) (fun h164 => ?_)
        · skip
          refine zs_iload_n (pc := 171) C dX9_signs_171 rfl ?_
          refine zSip1 (pc := 172) C dX9_signs_172 s_X9_316 (c_X9_rank hX ) (by decide) ⟨Nat.zero_le _, Nat.zero_le _⟩ (Nat.le_of_ble_eq_true rfl) (fun x172 l172 u172 hp172 => ?_)
          have hq172 := hp172
          exact zs_wk (J175 _ (by first | omega | (simp only [zuI_1, zuI_2, zuJ_1, zuJ_2, zuJ_3, zuP_1, zuP_2, zuP_3, zuC_1, zuC_2, reduceIte, Nat.reduceEqDiff, false_and, and_false, true_and, and_true, and_self, or_true, true_or, or_false, false_or]; omega))) (zwk_s rfl (zwk_s rfl zwk_0))
        · skip
          refine zs_iconst (pc := 167) C dX9_signs_167 (by decide) ?_
          refine zs_goto (tgt := 175) (pc := 168) C dX9_signs_168 (by decide) ?_
          exact zs_wk (J175 _ (by first | omega | (simp only [zuI_1, zuI_2, zuJ_1, zuJ_2, zuJ_3, zuP_1, zuP_2, zuP_3, zuC_1, zuC_2, reduceIte, Nat.reduceEqDiff, false_and, and_false, true_and, and_true, and_self, or_true, true_or, or_false, false_or]; omega))) (zwk_s rfl (zwk_s rfl zwk_0))
      · skip
        refine zs_aload_n (pc := 152) C dX9_signs_152 rfl ?_
        refine zs_iconst (pc := 153) C dX9_signs_153 (by decide) ?_
        refine zVi1 (pc := 154) C dX9_signs_154 v_X9_220 (c_X9_wrong hX ) (by decide) (by decide) ⟨Nat.zero_le _, Nat.zero_le _⟩ (Nat.le_of_ble_eq_true rfl) (fun x154 G154 l154 u154 hp154 => ?_)
        obtain ⟨hz154, hq154⟩ := hp154
        have tr154_1042 := zsm_at hz154 1042 w 0 (by decide)
        try simp only [zuI_1, zuI_2, zuJ_1, zuJ_2, zuJ_3, zuP_1, zuP_2, zuP_3, zuC_1, zuC_2, reduceIte, Nat.reduceEqDiff, false_and, and_false, true_and, and_true, and_self, or_true, true_or, or_false, false_or] at tr154_1042
        have tr154_1043 := zsm_at hz154 1043 w 0 (by decide)
        try simp only [zuI_1, zuI_2, zuJ_1, zuJ_2, zuJ_3, zuP_1, zuP_2, zuP_3, zuC_1, zuC_2, reduceIte, Nat.reduceEqDiff, false_and, and_false, true_and, and_true, and_self, or_true, true_or, or_false, false_or] at tr154_1043
        have tr154_1044 := zsm_at hz154 1044 w 0 (by decide)
        try simp only [zuI_1, zuI_2, zuJ_1, zuJ_2, zuJ_3, zuP_1, zuP_2, zuP_3, zuC_1, zuC_2, reduceIte, Nat.reduceEqDiff, false_and, and_false, true_and, and_true, and_self, or_true, true_or, or_false, false_or] at tr154_1044
        have tr154_1045 := zsm_at hz154 1045 w 0 (by decide)
        try simp only [zuI_1, zuI_2, zuJ_1, zuJ_2, zuJ_3, zuP_1, zuP_2, zuP_3, zuC_1, zuC_2, reduceIte, Nat.reduceEqDiff, false_and, and_false, true_and, and_true, and_self, or_true, true_or, or_false, false_or] at tr154_1045
        have tr154_1046 := zsm_at hz154 1046 w 0 (by decide)
        try simp only [zuI_1, zuI_2, zuJ_1, zuJ_2, zuJ_3, zuP_1, zuP_2, zuP_3, zuC_1, zuC_2, reduceIte, Nat.reduceEqDiff, false_and, and_false, true_and, and_true, and_self, or_true, true_or, or_false, false_or] at tr154_1046
        have tr154_1021 := zsm_at hz154 1021 w 0 (by decide)
        try simp only [zuI_1, zuI_2, zuJ_1, zuJ_2, zuJ_3, zuP_1, zuP_2, zuP_3, zuC_1, zuC_2, reduceIte, Nat.reduceEqDiff, false_and, and_false, true_and, and_true, and_self, or_true, true_or, or_false, false_or] at tr154_1021
        have tr154_1007 := zsm_at hz154 1007 w 0 (by decide)
        try simp only [zuI_1, zuI_2, zuJ_1, zuJ_2, zuJ_3, zuP_1, zuP_2, zuP_3, zuC_1, zuC_2, reduceIte, Nat.reduceEqDiff, false_and, and_false, true_and, and_true, and_self, or_true, true_or, or_false, false_or] at tr154_1007
        have tr154_1010 := zsm_at hz154 1010 w 0 (by decide)
        try simp only [zuI_1, zuI_2, zuJ_1, zuJ_2, zuJ_3, zuP_1, zuP_2, zuP_3, zuC_1, zuC_2, reduceIte, Nat.reduceEqDiff, false_and, and_false, true_and, and_true, and_self, or_true, true_or, or_false, false_or] at tr154_1010
        have tr154_1006 := zsm_at hz154 1006 w 0 (by decide)
        try simp only [zuI_1, zuI_2, zuJ_1, zuJ_2, zuJ_3, zuP_1, zuP_2, zuP_3, zuC_1, zuC_2, reduceIte, Nat.reduceEqDiff, false_and, and_false, true_and, and_true, and_self, or_true, true_or, or_false, false_or] at tr154_1006
        have tr154_1008 := zsm_at hz154 1008 w 0 (by decide)
        try simp only [zuI_1, zuI_2, zuJ_1, zuJ_2, zuJ_3, zuP_1, zuP_2, zuP_3, zuC_1, zuC_2, reduceIte, Nat.reduceEqDiff, false_and, and_false, true_and, and_true, and_self, or_true, true_or, or_false, false_or] at tr154_1008
        have tr154_1009 := zsm_at hz154 1009 w 0 (by decide)
        try simp only [zuI_1, zuI_2, zuJ_1, zuJ_2, zuJ_3, zuP_1, zuP_2, zuP_3, zuC_1, zuC_2, reduceIte, Nat.reduceEqDiff, false_and, and_false, true_and, and_true, and_self, or_true, true_or, or_false, false_or] at tr154_1009
        exact zs_zret (pc := 157) C hr hlk dX9_signs_157 (by omega) ⟨by repeat (first | exact zsm_rf | assumption | refine zsm_C (by decide) ?_ | refine zsm_I (by decide) ?_ | refine zsm_J ?_ | refine zsm_c (by assumption) (by decide) ?_), ⟨by omega, (by repeat (first | assumption | refine MI_I (by decide) ?_ | refine MI_J ?_ | refine MI_sm (by assumption) (by decide) ?_ | refine MI_sn (by assumption) (by decide) ?_)), fun q => by first | (exfalso; omega) | exact ⟨hTI, hPI, by omega⟩⟩⟩
    refine zs_bipush (pc := 48) C dX9_signs_48 (by decide) (by decide) ?_
    refine zVip1 (pc := 50) C dX9_signs_50 v_X9_288 (c_X9_isKey hX ) (by decide) (by decide) ⟨Nat.zero_le _, Nat.zero_le _⟩ (Nat.le_of_ble_eq_true rfl) (fun x50 l50 u50 hp50 => ?_)
    have hq50 := hp50
    refine zs_if_eq (tgt := 60) (pc := 53) C dX9_signs_53 (by decide) (fun h53 => ?_) (fun h53 => ?_)
    · skip
      refine zs_aload_n (pc := 60) C dX9_signs_60 rfl ?_
      refine zs_bipush (pc := 61) C dX9_signs_61 (by decide) (by decide) ?_
      refine zVip1 (pc := 63) C dX9_signs_63 v_X9_288 (c_X9_isKey hX ) (by decide) (by decide) ⟨Nat.zero_le _, Nat.zero_le _⟩ (Nat.le_of_ble_eq_true rfl) (fun x63 l63 u63 hp63 => ?_)
      have hq63 := hp63
      refine zs_if_eq (tgt := 73) (pc := 66) C dX9_signs_66 (by decide) (fun h66 => ?_) (fun h66 => ?_)
      · skip
        refine zs_aload_n (pc := 73) C dX9_signs_73 rfl ?_
        refine zs_geti (r := 1008) (pc := 74) C dX9_signs_74 w_X9_196 f_10_8 rfl (r_1008 0) (fun v74 e74 l74 u74 => ?_)
        refine zs_iconst (pc := 77) C dX9_signs_77 (by decide) ?_
        refine zs_icmp_ne (tgt := 90) (pc := 78) C dX9_signs_78 (by decide) (fun h78 => ?_) (fun h78 => ?_)
        · skip
          refine zs_aload_n (pc := 90) C dX9_signs_90 rfl ?_
          refine zs_bipush (pc := 91) C dX9_signs_91 (by decide) (by decide) ?_
          refine zVip1 (pc := 93) C dX9_signs_93 v_X9_233 (c_X9_isSign hX ) (by decide) (by decide) ⟨Nat.zero_le _, Nat.zero_le _⟩ (Nat.le_of_ble_eq_true rfl) (fun x93 l93 u93 hp93 => ?_)
          have hq93 := hp93
          refine zs_if_eq (tgt := 104) (pc := 96) C dX9_signs_96 (by decide) (fun h96 => ?_) (fun h96 => ?_)
          · skip
            refine zs_aload_n (pc := 104) C dX9_signs_104 rfl ?_
            refine zs_bipush (pc := 105) C dX9_signs_105 (by decide) (by decide) ?_
            refine zVip1 (pc := 107) C dX9_signs_107 v_X9_233 (c_X9_isSign hX ) (by decide) (by decide) ⟨Nat.zero_le _, Nat.zero_le _⟩ (Nat.le_of_ble_eq_true rfl) (fun x107 l107 u107 hp107 => ?_)
            have hq107 := hp107
            refine zs_if_eq (tgt := 118) (pc := 110) C dX9_signs_110 (by decide) (fun h110 => ?_) (fun h110 => ?_)
            · skip
              refine zs_aload_n (pc := 118) C dX9_signs_118 rfl ?_
              refine zs_bipush (pc := 119) C dX9_signs_119 (by decide) (by decide) ?_
              refine zVip1 (pc := 121) C dX9_signs_121 v_X9_233 (c_X9_isSign hX ) (by decide) (by decide) ⟨Nat.zero_le _, Nat.zero_le _⟩ (Nat.le_of_ble_eq_true rfl) (fun x121 l121 u121 hp121 => ?_)
              have hq121 := hp121
              refine zs_if_eq (tgt := 132) (pc := 124) C dX9_signs_124 (by decide) (fun h124 => ?_) (fun h124 => ?_)
              · skip
                refine zs_aload_n (pc := 132) C dX9_signs_132 rfl ?_
                refine zs_bipush (pc := 133) C dX9_signs_133 (by decide) (by decide) ?_
                refine zVip1 (pc := 135) C dX9_signs_135 v_X9_233 (c_X9_isSign hX ) (by decide) (by decide) ⟨Nat.zero_le _, Nat.zero_le _⟩ (Nat.le_of_ble_eq_true rfl) (fun x135 l135 u135 hp135 => ?_)
                have hq135 := hp135
                refine zs_if_eq (tgt := 146) (pc := 138) C dX9_signs_138 (by decide) (fun h138 => ?_) (fun h138 => ?_)
                · skip
                  refine zs_iconst (pc := 146) C dX9_signs_146 (by decide) ?_
                  exact zs_wk (J147 _ (by first | omega | (simp only [zuI_1, zuI_2, zuJ_1, zuJ_2, zuJ_3, zuP_1, zuP_2, zuP_3, zuC_1, zuC_2, reduceIte, Nat.reduceEqDiff, false_and, and_false, true_and, and_true, and_self, or_true, true_or, or_false, false_or]; omega))) (zwk_s rfl (zwk_n zwk_0))
                · skip
                  refine zs_bipush (pc := 141) C dX9_signs_141 (by decide) (by decide) ?_
                  refine zs_goto (tgt := 147) (pc := 143) C dX9_signs_143 (by decide) ?_
                  exact zs_wk (J147 _ (by first | omega | (simp only [zuI_1, zuI_2, zuJ_1, zuJ_2, zuJ_3, zuP_1, zuP_2, zuP_3, zuC_1, zuC_2, reduceIte, Nat.reduceEqDiff, false_and, and_false, true_and, and_true, and_self, or_true, true_or, or_false, false_or]; omega))) (zwk_s rfl (zwk_n zwk_0))
              · skip
                refine zs_bipush (pc := 127) C dX9_signs_127 (by decide) (by decide) ?_
                refine zs_goto (tgt := 147) (pc := 129) C dX9_signs_129 (by decide) ?_
                exact zs_wk (J147 _ (by first | omega | (simp only [zuI_1, zuI_2, zuJ_1, zuJ_2, zuJ_3, zuP_1, zuP_2, zuP_3, zuC_1, zuC_2, reduceIte, Nat.reduceEqDiff, false_and, and_false, true_and, and_true, and_self, or_true, true_or, or_false, false_or]; omega))) (zwk_s rfl (zwk_n zwk_0))
            · skip
              refine zs_bipush (pc := 113) C dX9_signs_113 (by decide) (by decide) ?_
              refine zs_goto (tgt := 147) (pc := 115) C dX9_signs_115 (by decide) ?_
              exact zs_wk (J147 _ (by first | omega | (simp only [zuI_1, zuI_2, zuJ_1, zuJ_2, zuJ_3, zuP_1, zuP_2, zuP_3, zuC_1, zuC_2, reduceIte, Nat.reduceEqDiff, false_and, and_false, true_and, and_true, and_self, or_true, true_or, or_false, false_or]; omega))) (zwk_s rfl (zwk_n zwk_0))
          · skip
            refine zs_bipush (pc := 99) C dX9_signs_99 (by decide) (by decide) ?_
            refine zs_goto (tgt := 147) (pc := 101) C dX9_signs_101 (by decide) ?_
            exact zs_wk (J147 _ (by first | omega | (simp only [zuI_1, zuI_2, zuJ_1, zuJ_2, zuJ_3, zuP_1, zuP_2, zuP_3, zuC_1, zuC_2, reduceIte, Nat.reduceEqDiff, false_and, and_false, true_and, and_true, and_self, or_true, true_or, or_false, false_or]; omega))) (zwk_s rfl (zwk_n zwk_0))
        · skip
          refine zs_iconst (pc := 81) C dX9_signs_81 (by decide) ?_
          refine zs_aload_n (pc := 82) C dX9_signs_82 rfl ?_
          refine zs_geti (r := 1009) (pc := 83) C dX9_signs_83 w_X9_207 f_10_9 rfl (r_1009 0) (fun v83 e83 l83 u83 => ?_)
          first | refine zs_iadd (pc := 86) C dX9_signs_86 (by omega) ?_ | refine zs_iaddF (pc := 86) C dX9_signs_86 (fun z86 hz861 hz862 => ?_)
          refine zs_goto (tgt := 147) (pc := 87) C dX9_signs_87 (by decide) ?_
          exact zs_wk (J147 _ (by first | omega | (simp only [zuI_1, zuI_2, zuJ_1, zuJ_2, zuJ_3, zuP_1, zuP_2, zuP_3, zuC_1, zuC_2, reduceIte, Nat.reduceEqDiff, false_and, and_false, true_and, and_true, and_self, or_true, true_or, or_false, false_or]; omega))) (zwk_s rfl (zwk_n zwk_0))
      · skip
        refine zs_iconst (pc := 69) C dX9_signs_69 (by decide) ?_
        refine zs_goto (tgt := 147) (pc := 70) C dX9_signs_70 (by decide) ?_
        exact zs_wk (J147 _ (by first | omega | (simp only [zuI_1, zuI_2, zuJ_1, zuJ_2, zuJ_3, zuP_1, zuP_2, zuP_3, zuC_1, zuC_2, reduceIte, Nat.reduceEqDiff, false_and, and_false, true_and, and_true, and_self, or_true, true_or, or_false, false_or]; omega))) (zwk_s rfl (zwk_n zwk_0))
    · skip
      refine zs_iconst (pc := 56) C dX9_signs_56 (by decide) ?_
      refine zs_goto (tgt := 147) (pc := 57) C dX9_signs_57 (by decide) ?_
      exact zs_wk (J147 _ (by first | omega | (simp only [zuI_1, zuI_2, zuJ_1, zuJ_2, zuJ_3, zuP_1, zuP_2, zuP_3, zuC_1, zuC_2, reduceIte, Nat.reduceEqDiff, false_and, and_false, true_and, and_true, and_self, or_true, true_or, or_false, false_or]; omega))) (zwk_s rfl (zwk_n zwk_0))
  refine zs_bipush (pc := 1) C dX9_signs_1 (by decide) (by decide) ?_
  refine zVip1 (pc := 3) C dX9_signs_3 v_X9_233 (c_X9_isSign hX ) (by decide) (by decide) ⟨Nat.zero_le _, Nat.zero_le _⟩ (Nat.le_of_ble_eq_true rfl) (fun x3 l3 u3 hp3 => ?_)
  have hq3 := hp3
  refine zs_if_eq (tgt := 47) (pc := 6) C dX9_signs_6 (by decide) (fun h6 => ?_) (fun h6 => ?_)
  · skip
    exact zs_wk (J47 _ rfl) (zwk_s rfl (zwk_n zwk_0))
  · skip
    refine zs_aload_n (pc := 9) C dX9_signs_9 rfl ?_
    refine zs_geti (r := 1044) (pc := 10) C dX9_signs_10 w_X9_328 f_10_44 rfl (r_1044 0) (fun v10 e10 l10 u10 => ?_)
    refine zs_if_le (tgt := 47) (pc := 13) C dX9_signs_13 (by decide) (fun h13 => ?_) (fun h13 => ?_)
    · skip
      exact zs_wk (J47 _ rfl) (zwk_s rfl (zwk_n zwk_0))
    · skip
      refine zs_aload_n (pc := 16) C dX9_signs_16 rfl ?_
      refine zs_iconst (pc := 17) C dX9_signs_17 (by decide) ?_
      refine zVv1 (pc := 18) C dX9_signs_18 v_X9_348 (c_X9_bind hX (by repeat (first | assumption | refine MI_I (by decide) ?_ | refine MI_J ?_ | refine MI_sm (by assumption) (by decide) ?_ | refine MI_sn (by assumption) (by decide) ?_)) (by repeat (first | assumption | refine PI_I (by decide) ?_ | refine PI_sm (by assumption) (by decide) ?_)) (by omega) (by omega)) (by decide) (by decide) ⟨Nat.zero_le _, Nat.zero_le _⟩ (Nat.le_of_ble_eq_true rfl) (fun G18 hp18 => ?_)
      obtain ⟨hz18, hq18⟩ := hp18
      have tr18_1044 := zsm_at hz18 1044 w 0 (by decide)
      try simp only [zuI_1, zuI_2, zuJ_1, zuJ_2, zuJ_3, zuP_1, zuP_2, zuP_3, zuC_1, zuC_2, reduceIte, Nat.reduceEqDiff, false_and, and_false, true_and, and_true, and_self, or_true, true_or, or_false, false_or] at tr18_1044
      have tr18_1045 := zsm_at hz18 1045 w 0 (by decide)
      try simp only [zuI_1, zuI_2, zuJ_1, zuJ_2, zuJ_3, zuP_1, zuP_2, zuP_3, zuC_1, zuC_2, reduceIte, Nat.reduceEqDiff, false_and, and_false, true_and, and_true, and_self, or_true, true_or, or_false, false_or] at tr18_1045
      have tr18_1046 := zsm_at hz18 1046 w 0 (by decide)
      try simp only [zuI_1, zuI_2, zuJ_1, zuJ_2, zuJ_3, zuP_1, zuP_2, zuP_3, zuC_1, zuC_2, reduceIte, Nat.reduceEqDiff, false_and, and_false, true_and, and_true, and_self, or_true, true_or, or_false, false_or] at tr18_1046
      have tr18_1007 := zsm_at hz18 1007 w 0 (by decide)
      try simp only [zuI_1, zuI_2, zuJ_1, zuJ_2, zuJ_3, zuP_1, zuP_2, zuP_3, zuC_1, zuC_2, reduceIte, Nat.reduceEqDiff, false_and, and_false, true_and, and_true, and_self, or_true, true_or, or_false, false_or] at tr18_1007
      have tr18_1010 := zsm_at hz18 1010 w 0 (by decide)
      try simp only [zuI_1, zuI_2, zuJ_1, zuJ_2, zuJ_3, zuP_1, zuP_2, zuP_3, zuC_1, zuC_2, reduceIte, Nat.reduceEqDiff, false_and, and_false, true_and, and_true, and_self, or_true, true_or, or_false, false_or] at tr18_1010
      have tr18_1006 := zsm_at hz18 1006 w 0 (by decide)
      try simp only [zuI_1, zuI_2, zuJ_1, zuJ_2, zuJ_3, zuP_1, zuP_2, zuP_3, zuC_1, zuC_2, reduceIte, Nat.reduceEqDiff, false_and, and_false, true_and, and_true, and_self, or_true, true_or, or_false, false_or] at tr18_1006
      have tr18_1008 := zsm_at hz18 1008 w 0 (by decide)
      try simp only [zuI_1, zuI_2, zuJ_1, zuJ_2, zuJ_3, zuP_1, zuP_2, zuP_3, zuC_1, zuC_2, reduceIte, Nat.reduceEqDiff, false_and, and_false, true_and, and_true, and_self, or_true, true_or, or_false, false_or] at tr18_1008
      have tr18_1009 := zsm_at hz18 1009 w 0 (by decide)
      try simp only [zuI_1, zuI_2, zuJ_1, zuJ_2, zuJ_3, zuP_1, zuP_2, zuP_3, zuC_1, zuC_2, reduceIte, Nat.reduceEqDiff, false_and, and_false, true_and, and_true, and_self, or_true, true_or, or_false, false_or] at tr18_1009
      have hMI := hq18.1
      have hPI18 := hq18.2.1
      have top := hq18.2.2 (by omega)
      have p1b := hPI18.1
      have p2b := hPI18.2.1
      have p3b := hPI18.2.2.1
      have p4b := hPI18.2.2.2
      have k3b := c3_le (G18.1 2077 (Γ.2.1 w 40)) (G18.1 1042 w 0).toNat
      have k0b := c0_le (G18.1 2077 (Γ.2.1 w 40)) (G18.1 1042 w 0).toNat
      refine zs_good (fun hGdh => ?_)
      have hbh_1042 := hGdh.1 1042 w 0
      rw [r_1042] at hbh_1042
      have c3pb := c3_pop (W := G18.1 2077 (Γ.2.1 w 40)) (n := G18.1 1042 w 0) (by omega)
      have c0pb := c0_pop (W := G18.1 2077 (Γ.2.1 w 40)) (n := G18.1 1042 w 0) (by omega)
      have c3lb := c3_le (G18.1 2077 (Γ.2.1 w 40)) (G18.1 1042 w 0 - 1).toNat
      have c0lb := c0_le (G18.1 2077 (Γ.2.1 w 40)) (G18.1 1042 w 0 - 1).toNat
      refine zs_aload_n (pc := 21) C dX9_signs_21 rfl ?_
      refine zs_dupa (pc := 22) C dX9_signs_22 ?_
      refine zs_geti (r := 1042) (pc := 23) C dX9_signs_23 w_X9_313 f_10_42 rfl (r_1042 0) (fun v23 e23 l23 u23 => ?_)
      refine zs_iconst (pc := 26) C dX9_signs_26 (by decide) ?_
      first | refine zs_isub (pc := 27) C dX9_signs_27 (by omega) ?_ | refine zs_isubF (pc := 27) C dX9_signs_27 (fun z27 hz271 hz272 => ?_)
      refine zs_puti (r := 1042) (pc := 28) C dX9_signs_28 w_X9_313 f_10_42 rfl (r_1042 0) (by omega) ?_
      refine zs_aload_n (pc := 31) C dX9_signs_31 rfl ?_
      refine zs_dupa (pc := 32) C dX9_signs_32 ?_
      refine zs_geti (r := 1044) (pc := 33) C dX9_signs_33 w_X9_328 f_10_44 rfl (r_1044 0) (fun v33 e33 l33 u33 => ?_)
      try simp only [zuI_1, zuI_2, zuJ_1, zuJ_2, zuJ_3, zuP_1, zuP_2, zuP_3, zuC_1, zuC_2, reduceIte, Nat.reduceEqDiff, false_and, and_false, true_and, and_true, and_self, or_true, true_or, or_false, false_or] at e33
      refine zs_iconst (pc := 36) C dX9_signs_36 (by decide) ?_
      first | refine zs_isub (pc := 37) C dX9_signs_37 (by omega) ?_ | refine zs_isubF (pc := 37) C dX9_signs_37 (fun z37 hz371 hz372 => ?_)
      refine zs_puti (r := 1044) (pc := 38) C dX9_signs_38 w_X9_328 f_10_44 rfl (r_1044 0) (by omega) ?_
      refine zs_aload_n (pc := 41) C dX9_signs_41 rfl ?_
      refine zVv0 (pc := 42) C dX9_signs_42 v_X9_230 (c_X9_token hX (by first | omega | (simp only [zuI_1, zuI_2, zuJ_1, zuJ_2, zuJ_3, zuP_1, zuP_2, zuP_3, zuC_1, zuC_2, reduceIte, Nat.reduceEqDiff, false_and, and_false, true_and, and_true, and_self, or_true, true_or, or_false, false_or]; omega))) (by decide) (by decide) ⟨Nat.zero_le _, Nat.zero_le _⟩ (Nat.le_of_ble_eq_true rfl) (fun G42 hp42 => ?_)
      obtain ⟨hz42, hq42⟩ := hp42
      try simp only [zuI_1, zuI_2, zuJ_1, zuJ_2, zuJ_3, zuP_1, zuP_2, zuP_3, zuC_1, zuC_2, reduceIte, Nat.reduceEqDiff, false_and, and_false, true_and, and_true, and_self, or_true, true_or, or_false, false_or] at hq42
      have tr42_1042 := zsm_at hz42 1042 w 0 (by decide)
      try simp only [zuI_1, zuI_2, zuJ_1, zuJ_2, zuJ_3, zuP_1, zuP_2, zuP_3, zuC_1, zuC_2, reduceIte, Nat.reduceEqDiff, false_and, and_false, true_and, and_true, and_self, or_true, true_or, or_false, false_or] at tr42_1042
      have tr42_1043 := zsm_at hz42 1043 w 0 (by decide)
      try simp only [zuI_1, zuI_2, zuJ_1, zuJ_2, zuJ_3, zuP_1, zuP_2, zuP_3, zuC_1, zuC_2, reduceIte, Nat.reduceEqDiff, false_and, and_false, true_and, and_true, and_self, or_true, true_or, or_false, false_or] at tr42_1043
      have tr42_1044 := zsm_at hz42 1044 w 0 (by decide)
      try simp only [zuI_1, zuI_2, zuJ_1, zuJ_2, zuJ_3, zuP_1, zuP_2, zuP_3, zuC_1, zuC_2, reduceIte, Nat.reduceEqDiff, false_and, and_false, true_and, and_true, and_self, or_true, true_or, or_false, false_or] at tr42_1044
      have tr42_1045 := zsm_at hz42 1045 w 0 (by decide)
      try simp only [zuI_1, zuI_2, zuJ_1, zuJ_2, zuJ_3, zuP_1, zuP_2, zuP_3, zuC_1, zuC_2, reduceIte, Nat.reduceEqDiff, false_and, and_false, true_and, and_true, and_self, or_true, true_or, or_false, false_or] at tr42_1045
      have tr42_1046 := zsm_at hz42 1046 w 0 (by decide)
      try simp only [zuI_1, zuI_2, zuJ_1, zuJ_2, zuJ_3, zuP_1, zuP_2, zuP_3, zuC_1, zuC_2, reduceIte, Nat.reduceEqDiff, false_and, and_false, true_and, and_true, and_self, or_true, true_or, or_false, false_or] at tr42_1046
      have tr42_1021 := zsm_at hz42 1021 w 0 (by decide)
      try simp only [zuI_1, zuI_2, zuJ_1, zuJ_2, zuJ_3, zuP_1, zuP_2, zuP_3, zuC_1, zuC_2, reduceIte, Nat.reduceEqDiff, false_and, and_false, true_and, and_true, and_self, or_true, true_or, or_false, false_or] at tr42_1021
      have tr42_1006 := zsm_at hz42 1006 w 0 (by decide)
      try simp only [zuI_1, zuI_2, zuJ_1, zuJ_2, zuJ_3, zuP_1, zuP_2, zuP_3, zuC_1, zuC_2, reduceIte, Nat.reduceEqDiff, false_and, and_false, true_and, and_true, and_self, or_true, true_or, or_false, false_or] at tr42_1006
      have hTI := hq42.1
      have e77 : G42.1 2077 = G18.1 2077 := by rw [hz42.1 2077 (by decide), zuI_ne (show (2077 : Nat) ≠ 1044 by decide), zuI_ne (show (2077 : Nat) ≠ 1042 by decide)]
      have e42 : G42.1 1042 w 0 = G18.1 1042 w 0 - 1 := by omega
      have hPI : PI Γ w G42 := by
        unfold PI
        rw [e77, e42]
        exact ⟨by omega, by omega, by omega, fun q => by omega⟩
      refine zs_iconst (pc := 45) C dX9_signs_45 (by decide) ?_
      exact zs_zret (pc := 46) C hr hlk dX9_signs_46 (by omega) ⟨by repeat (first | exact zsm_rf | assumption | refine zsm_C (by decide) ?_ | refine zsm_I (by decide) ?_ | refine zsm_J ?_ | refine zsm_c (by assumption) (by decide) ?_), ⟨by omega, (by repeat (first | assumption | refine MI_I (by decide) ?_ | refine MI_J ?_ | refine MI_sm (by assumption) (by decide) ?_ | refine MI_sn (by assumption) (by decide) ?_)), fun q => by first | (exfalso; omega) | exact ⟨hTI, hPI, by omega⟩⟩⟩

set_option maxHeartbeats 4000000 in
set_option maxRecDepth 100000 in
theorem c_X9_sumRead {l : Launch} {Γ : zΓ} {G : zH} {w : Nat}  (hX : zXs Γ) (hM : MI Γ w G)(hT : TI w G) (hc : G.1 1045 w 0 = G.1 1021 w 0) : zMet l Γ yX9_sumRead cX9_sumRead 1 (some .boolean) 3 [zr 10 w] G (zpi (fun x G' => zsm [1007, 1008, 1009, 1010, 1004, 1005, 2074, 2075, 2076, 2078, 1043, 1021, 2077, 1042, 1044, 1045, 1046, 1047] G G' ∧ ((x = 0 ∨ x = 1) ∧ MI Γ w G' ∧ (x = 1 → TI w G' ∧ 1 ≤ G'.1 1021 w 0 ∧ G'.1 1045 w 0 = G'.1 1021 w 0 ∧ G.1 1010 w 0 ≤ G'.1 1010 w 0)))) := by
  refine zMet_of RX9 hX (by decide) rfl (Nat.le_of_ble_eq_true rfl) ?_
  intro p e s m args below meth c C hr hlk
  show Z p l e (zrm 3) s m args below meth c Γ 1 0 0 (MQ below (zQc Γ (zpi (fun x G' => zsm [1007, 1008, 1009, 1010, 1004, 1005, 2074, 2075, 2076, 2078, 1043, 1021, 2077, 1042, 1044, 1045, 1046, 1047] G G' ∧ ((x = 0 ∨ x = 1) ∧ MI Γ w G' ∧ (x = 1 → TI w G' ∧ 1 ≤ G'.1 1021 w 0 ∧ G'.1 1045 w 0 = G'.1 1021 w 0 ∧ G.1 1010 w 0 ≤ G'.1 1010 w 0))))) args s 0 0 (zA Γ)) 0 [some (zr 10 w)] [] G
  refine zs_aload_n (pc := 0) C dX9_sumRead_0 rfl ?_
  refine zs_iconst (pc := 1) C dX9_sumRead_1 (by decide) ?_
  refine zs_puti (r := 1042) (pc := 2) C dX9_sumRead_2 w_X9_313 f_10_42 rfl (r_1042 0) (by omega) ?_
  refine zs_aload_n (pc := 5) C dX9_sumRead_5 rfl ?_
  refine zs_iconst (pc := 6) C dX9_sumRead_6 (by decide) ?_
  refine zs_puti (r := 1043) (pc := 7) C dX9_sumRead_7 w_X9_310 f_10_43 rfl (r_1043 0) (by omega) ?_
  refine zs_aload_n (pc := 10) C dX9_sumRead_10 rfl ?_
  refine zs_iconst (pc := 11) C dX9_sumRead_11 (by decide) ?_
  refine zs_puti (r := 1044) (pc := 12) C dX9_sumRead_12 w_X9_328 f_10_44 rfl (r_1044 0) (by omega) ?_
  refine zs_aload_n (pc := 15) C dX9_sumRead_15 rfl ?_
  refine zs_iconst (pc := 16) C dX9_sumRead_16 (by decide) ?_
  refine zs_putz (r := 1046) (pc := 17) C dX9_sumRead_17 w_X9_345 f_10_46 rfl (r_1046 0) (by omega) (by omega) ?_
  refine zs_aload_n (pc := 20) C dX9_sumRead_20 rfl ?_
  refine zs_iconst (pc := 21) C dX9_sumRead_21 (by decide) ?_
  refine zs_putz (r := 1047) (pc := 22) C dX9_sumRead_22 w_X9_335 f_10_47 rfl (r_1047 0) (by omega) (by omega) ?_
  have L25 : ∀ (nn : Nat) (G1 : zH), (zsm [1007, 1008, 1009, 1010, 1004, 1005, 2074, 2075, 2076, 2078, 1043, 1021, 2077, 1042, 1044, 1045, 1046, 1047] G G1) → (MI Γ w G1) → (TI w G1) → (PI Γ w G1) → (G.1 1010 w 0 ≤ G1.1 1010 w 0) → (701 - G1.1 1010 w 0).toNat < nn → Z p l e (zrm 3) s m args below meth c Γ 1 0 0 (MQ below (zQc Γ (zpi (fun x G' => zsm [1007, 1008, 1009, 1010, 1004, 1005, 2074, 2075, 2076, 2078, 1043, 1021, 2077, 1042, 1044, 1045, 1046, 1047] G G' ∧ ((x = 0 ∨ x = 1) ∧ MI Γ w G' ∧ (x = 1 → TI w G' ∧ 1 ≤ G'.1 1021 w 0 ∧ G'.1 1045 w 0 = G'.1 1021 w 0 ∧ G.1 1010 w 0 ≤ G'.1 1010 w 0))))) args s 0 0 (zA Γ)) 25 [some (zr 10 w)] [] G1 := by
    intro nn
    induction nn with
    | zero => intro G1 h25_0 h25_1 h25_2 h25_3 h25_4 hm; exact absurd hm (Nat.not_lt_zero _)
    | succ nn ih25 =>
      intro G1 h25_0 h25_1 h25_2 h25_3 h25_4 hm25
      refine zs_good (fun hGdg => ?_)
      have hbg_1042 := hGdg.1 1042 w 0
      rw [r_1042] at hbg_1042
      have hbg_1010 := hGdg.1 1010 w 0
      rw [r_1010] at hbg_1010
      have p1 := h25_3.1
      have p2 := h25_3.2.1
      have p3 := h25_3.2.2.1
      have p4 := h25_3.2.2.2
      have k3 := c3_le (G1.1 2077 (Γ.2.1 w 40)) (G1.1 1042 w 0).toNat
      have k0 := c0_le (G1.1 2077 (Γ.2.1 w 40)) (G1.1 1042 w 0).toNat
      refine zs_aload_n (pc := 25) C dX9_sumRead_25 rfl ?_
      refine zs_bipush (pc := 26) C dX9_sumRead_26 (by decide) (by decide) ?_
      refine zVip1 (pc := 28) C dX9_sumRead_28 v_X9_233 (c_X9_isSign hX ) (by decide) (by decide) ⟨Nat.zero_le _, Nat.zero_le _⟩ (Nat.le_of_ble_eq_true rfl) (fun x28 l28 u28 hp28 => ?_)
      have hq28 := hp28
      refine zs_if_eq (tgt := 48) (pc := 31) C dX9_sumRead_31 (by decide) (fun h31 => ?_) (fun h31 => ?_)
      · skip
        refine zs_aload_n (pc := 48) C dX9_sumRead_48 rfl ?_
        refine zs_getz (r := 1046) (pc := 49) C dX9_sumRead_49 w_X9_345 f_10_46 rfl (r_1046 0) (fun v49 e49 l49 u49 => ?_)
        refine zs_if_eq (tgt := 65) (pc := 52) C dX9_sumRead_52 (by decide) (fun h52 => ?_) (fun h52 => ?_)
        · skip
          refine zs_aload_n (pc := 65) C dX9_sumRead_65 rfl ?_
          refine zVi0 (pc := 66) C dX9_sumRead_66 v_X9_354 (c_X9_signs hX (by repeat (first | assumption | refine MI_I (by decide) ?_ | refine MI_J ?_ | refine MI_sm (by assumption) (by decide) ?_ | refine MI_sn (by assumption) (by decide) ?_)) (by repeat (first | assumption | refine TI_I (by decide) ?_ | refine TI_sm (by assumption) (by decide) ?_)) (by repeat (first | assumption | refine PI_I (by decide) ?_ | refine PI_sm (by assumption) (by decide) ?_)) (by omega)) (by decide) (by decide) ⟨Nat.zero_le _, Nat.zero_le _⟩ (Nat.le_of_ble_eq_true rfl) (fun x66 G66 l66 u66 hp66 => ?_)
          obtain ⟨hz66, hq66⟩ := hp66
          have tr66_1006 := zsm_at hz66 1006 w 0 (by decide)
          try simp only [zuI_1, zuI_2, zuJ_1, zuJ_2, zuJ_3, zuP_1, zuP_2, zuP_3, zuC_1, zuC_2, reduceIte, Nat.reduceEqDiff, false_and, and_false, true_and, and_true, and_self, or_true, true_or, or_false, false_or] at tr66_1006
          have hMI := hq66.2.1
          have hx := hq66.2.2
          refine zs_if_ne (tgt := 25) (pc := 69) C dX9_sumRead_69 (by decide) (fun h69 => ?_) (fun h69 => ?_)
          · skip
            exact zs_wk (ih25 _ (by repeat (first | exact zsm_rf | assumption | refine zsm_C (by decide) ?_ | refine zsm_I (by decide) ?_ | refine zsm_J ?_ | refine zsm_c (by assumption) (by decide) ?_)) hMI (hx (by omega)).1 (hx (by omega)).2.1 (by have hx2 := (hx (by omega)).2.2; omega) (by have hx2 := (hx (by omega)).2.2; omega)) (zwk_s rfl zwk_0)
          · skip
            refine zs_iconst (pc := 72) C dX9_sumRead_72 (by decide) ?_
            exact zs_zret (pc := 73) C hr hlk dX9_sumRead_73 (by omega) ⟨by repeat (first | exact zsm_rf | assumption | refine zsm_C (by decide) ?_ | refine zsm_I (by decide) ?_ | refine zsm_J ?_ | refine zsm_c (by assumption) (by decide) ?_), ⟨by omega, by assumption, fun q => by first | (exfalso; omega) | exact ⟨hTI, by omega, by omega, by omega⟩⟩⟩
        · skip
          refine zs_aload_n (pc := 55) C dX9_sumRead_55 rfl ?_
          refine zVi0 (pc := 56) C dX9_sumRead_56 v_X9_351 (c_X9_leafRead hX (by repeat (first | assumption | refine MI_I (by decide) ?_ | refine MI_J ?_ | refine MI_sm (by assumption) (by decide) ?_ | refine MI_sn (by assumption) (by decide) ?_)) (by repeat (first | assumption | refine TI_I (by decide) ?_ | refine TI_sm (by assumption) (by decide) ?_)) (by repeat (first | assumption | refine PI_I (by decide) ?_ | refine PI_sm (by assumption) (by decide) ?_)) (by omega)) (by decide) (by decide) ⟨Nat.zero_le _, Nat.zero_le _⟩ (Nat.le_of_ble_eq_true rfl) (fun x56 G56 l56 u56 hp56 => ?_)
          obtain ⟨hz56, hq56⟩ := hp56
          have tr56_1006 := zsm_at hz56 1006 w 0 (by decide)
          try simp only [zuI_1, zuI_2, zuJ_1, zuJ_2, zuJ_3, zuP_1, zuP_2, zuP_3, zuC_1, zuC_2, reduceIte, Nat.reduceEqDiff, false_and, and_false, true_and, and_true, and_self, or_true, true_or, or_false, false_or] at tr56_1006
          have hMI := hq56.2.1
          have hx := hq56.2.2
          refine zs_if_eq (tgt := 72) (pc := 59) C dX9_sumRead_59 (by decide) (fun h59 => ?_) (fun h59 => ?_)
          · skip
            refine zs_iconst (pc := 72) C dX9_sumRead_72 (by decide) ?_
            exact zs_zret (pc := 73) C hr hlk dX9_sumRead_73 (by omega) ⟨by repeat (first | exact zsm_rf | assumption | refine zsm_C (by decide) ?_ | refine zsm_I (by decide) ?_ | refine zsm_J ?_ | refine zsm_c (by assumption) (by decide) ?_), ⟨by omega, by assumption, fun q => by first | (exfalso; omega) | exact ⟨hTI, by omega, by omega, by omega⟩⟩⟩
          · skip
            refine zs_goto (tgt := 25) (pc := 62) C dX9_sumRead_62 (by decide) ?_
            exact zs_wk (ih25 _ (by repeat (first | exact zsm_rf | assumption | refine zsm_C (by decide) ?_ | refine zsm_I (by decide) ?_ | refine zsm_J ?_ | refine zsm_c (by assumption) (by decide) ?_)) hMI (hx (by omega)).1 (hx (by omega)).2.1 (by have hx2 := (hx (by omega)).2.2; omega) (by have hx2 := (hx (by omega)).2.2; omega)) (zwk_s rfl zwk_0)
      · skip
        refine zs_aload_n (pc := 34) C dX9_sumRead_34 rfl ?_
        refine zs_getz (r := 1046) (pc := 35) C dX9_sumRead_35 w_X9_345 f_10_46 rfl (r_1046 0) (fun v35 e35 l35 u35 => ?_)
        refine zs_if_ne (tgt := 48) (pc := 38) C dX9_sumRead_38 (by decide) (fun h38 => ?_) (fun h38 => ?_)
        · skip
          refine zs_aload_n (pc := 48) C dX9_sumRead_48 rfl ?_
          refine zs_getz (r := 1046) (pc := 49) C dX9_sumRead_49 w_X9_345 f_10_46 rfl (r_1046 0) (fun v49 e49 l49 u49 => ?_)
          refine zs_if_eq (tgt := 65) (pc := 52) C dX9_sumRead_52 (by decide) (fun h52 => ?_) (fun h52 => ?_)
          · skip
            refine zs_aload_n (pc := 65) C dX9_sumRead_65 rfl ?_
            refine zVi0 (pc := 66) C dX9_sumRead_66 v_X9_354 (c_X9_signs hX (by repeat (first | assumption | refine MI_I (by decide) ?_ | refine MI_J ?_ | refine MI_sm (by assumption) (by decide) ?_ | refine MI_sn (by assumption) (by decide) ?_)) (by repeat (first | assumption | refine TI_I (by decide) ?_ | refine TI_sm (by assumption) (by decide) ?_)) (by repeat (first | assumption | refine PI_I (by decide) ?_ | refine PI_sm (by assumption) (by decide) ?_)) (by omega)) (by decide) (by decide) ⟨Nat.zero_le _, Nat.zero_le _⟩ (Nat.le_of_ble_eq_true rfl) (fun x66 G66 l66 u66 hp66 => ?_)
            obtain ⟨hz66, hq66⟩ := hp66
            have tr66_1006 := zsm_at hz66 1006 w 0 (by decide)
            try simp only [zuI_1, zuI_2, zuJ_1, zuJ_2, zuJ_3, zuP_1, zuP_2, zuP_3, zuC_1, zuC_2, reduceIte, Nat.reduceEqDiff, false_and, and_false, true_and, and_true, and_self, or_true, true_or, or_false, false_or] at tr66_1006
            have hMI := hq66.2.1
            have hx := hq66.2.2
            refine zs_if_ne (tgt := 25) (pc := 69) C dX9_sumRead_69 (by decide) (fun h69 => ?_) (fun h69 => ?_)
            · skip
              exact zs_wk (ih25 _ (by repeat (first | exact zsm_rf | assumption | refine zsm_C (by decide) ?_ | refine zsm_I (by decide) ?_ | refine zsm_J ?_ | refine zsm_c (by assumption) (by decide) ?_)) hMI (hx (by omega)).1 (hx (by omega)).2.1 (by have hx2 := (hx (by omega)).2.2; omega) (by have hx2 := (hx (by omega)).2.2; omega)) (zwk_s rfl zwk_0)
            · skip
              refine zs_iconst (pc := 72) C dX9_sumRead_72 (by decide) ?_
              exact zs_zret (pc := 73) C hr hlk dX9_sumRead_73 (by omega) ⟨by repeat (first | exact zsm_rf | assumption | refine zsm_C (by decide) ?_ | refine zsm_I (by decide) ?_ | refine zsm_J ?_ | refine zsm_c (by assumption) (by decide) ?_), ⟨by omega, by assumption, fun q => by first | (exfalso; omega) | exact ⟨hTI, by omega, by omega, by omega⟩⟩⟩
          · skip
            refine zs_aload_n (pc := 55) C dX9_sumRead_55 rfl ?_
            refine zVi0 (pc := 56) C dX9_sumRead_56 v_X9_351 (c_X9_leafRead hX (by repeat (first | assumption | refine MI_I (by decide) ?_ | refine MI_J ?_ | refine MI_sm (by assumption) (by decide) ?_ | refine MI_sn (by assumption) (by decide) ?_)) (by repeat (first | assumption | refine TI_I (by decide) ?_ | refine TI_sm (by assumption) (by decide) ?_)) (by repeat (first | assumption | refine PI_I (by decide) ?_ | refine PI_sm (by assumption) (by decide) ?_)) (by omega)) (by decide) (by decide) ⟨Nat.zero_le _, Nat.zero_le _⟩ (Nat.le_of_ble_eq_true rfl) (fun x56 G56 l56 u56 hp56 => ?_)
            obtain ⟨hz56, hq56⟩ := hp56
            have tr56_1006 := zsm_at hz56 1006 w 0 (by decide)
            try simp only [zuI_1, zuI_2, zuJ_1, zuJ_2, zuJ_3, zuP_1, zuP_2, zuP_3, zuC_1, zuC_2, reduceIte, Nat.reduceEqDiff, false_and, and_false, true_and, and_true, and_self, or_true, true_or, or_false, false_or] at tr56_1006
            have hMI := hq56.2.1
            have hx := hq56.2.2
            refine zs_if_eq (tgt := 72) (pc := 59) C dX9_sumRead_59 (by decide) (fun h59 => ?_) (fun h59 => ?_)
            · skip
              refine zs_iconst (pc := 72) C dX9_sumRead_72 (by decide) ?_
              exact zs_zret (pc := 73) C hr hlk dX9_sumRead_73 (by omega) ⟨by repeat (first | exact zsm_rf | assumption | refine zsm_C (by decide) ?_ | refine zsm_I (by decide) ?_ | refine zsm_J ?_ | refine zsm_c (by assumption) (by decide) ?_), ⟨by omega, by assumption, fun q => by first | (exfalso; omega) | exact ⟨hTI, by omega, by omega, by omega⟩⟩⟩
            · skip
              refine zs_goto (tgt := 25) (pc := 62) C dX9_sumRead_62 (by decide) ?_
              exact zs_wk (ih25 _ (by repeat (first | exact zsm_rf | assumption | refine zsm_C (by decide) ?_ | refine zsm_I (by decide) ?_ | refine zsm_J ?_ | refine zsm_c (by assumption) (by decide) ?_)) hMI (hx (by omega)).1 (hx (by omega)).2.1 (by have hx2 := (hx (by omega)).2.2; omega) (by have hx2 := (hx (by omega)).2.2; omega)) (zwk_s rfl zwk_0)
        · skip
          refine zs_aload_n (pc := 41) C dX9_sumRead_41 rfl ?_
          refine zs_geti (r := 1044) (pc := 42) C dX9_sumRead_42 w_X9_328 f_10_44 rfl (r_1044 0) (fun v42 e42 l42 u42 => ?_)
          refine zs_if_le (tgt := 74) (pc := 45) C dX9_sumRead_45 (by decide) (fun h45 => ?_) (fun h45 => ?_)
          · skip
            refine zs_aload_n (pc := 74) C dX9_sumRead_74 rfl ?_
            refine zs_iconst (pc := 75) C dX9_sumRead_75 (by decide) ?_
            refine zVv1 (pc := 76) C dX9_sumRead_76 v_X9_348 (c_X9_bind hX (by repeat (first | assumption | refine MI_I (by decide) ?_ | refine MI_J ?_ | refine MI_sm (by assumption) (by decide) ?_ | refine MI_sn (by assumption) (by decide) ?_)) (by repeat (first | assumption | refine PI_I (by decide) ?_ | refine PI_sm (by assumption) (by decide) ?_)) (by omega) (by omega)) (by decide) (by decide) ⟨Nat.zero_le _, Nat.zero_le _⟩ (Nat.le_of_ble_eq_true rfl) (fun G76 hp76 => ?_)
            obtain ⟨hz76, hq76⟩ := hp76
            have tr76_1044 := zsm_at hz76 1044 w 0 (by decide)
            try simp only [zuI_1, zuI_2, zuJ_1, zuJ_2, zuJ_3, zuP_1, zuP_2, zuP_3, zuC_1, zuC_2, reduceIte, Nat.reduceEqDiff, false_and, and_false, true_and, and_true, and_self, or_true, true_or, or_false, false_or] at tr76_1044
            have tr76_1045 := zsm_at hz76 1045 w 0 (by decide)
            try simp only [zuI_1, zuI_2, zuJ_1, zuJ_2, zuJ_3, zuP_1, zuP_2, zuP_3, zuC_1, zuC_2, reduceIte, Nat.reduceEqDiff, false_and, and_false, true_and, and_true, and_self, or_true, true_or, or_false, false_or] at tr76_1045
            have tr76_1046 := zsm_at hz76 1046 w 0 (by decide)
            try simp only [zuI_1, zuI_2, zuJ_1, zuJ_2, zuJ_3, zuP_1, zuP_2, zuP_3, zuC_1, zuC_2, reduceIte, Nat.reduceEqDiff, false_and, and_false, true_and, and_true, and_self, or_true, true_or, or_false, false_or] at tr76_1046
            have tr76_1007 := zsm_at hz76 1007 w 0 (by decide)
            try simp only [zuI_1, zuI_2, zuJ_1, zuJ_2, zuJ_3, zuP_1, zuP_2, zuP_3, zuC_1, zuC_2, reduceIte, Nat.reduceEqDiff, false_and, and_false, true_and, and_true, and_self, or_true, true_or, or_false, false_or] at tr76_1007
            have tr76_1010 := zsm_at hz76 1010 w 0 (by decide)
            try simp only [zuI_1, zuI_2, zuJ_1, zuJ_2, zuJ_3, zuP_1, zuP_2, zuP_3, zuC_1, zuC_2, reduceIte, Nat.reduceEqDiff, false_and, and_false, true_and, and_true, and_self, or_true, true_or, or_false, false_or] at tr76_1010
            have tr76_1006 := zsm_at hz76 1006 w 0 (by decide)
            try simp only [zuI_1, zuI_2, zuJ_1, zuJ_2, zuJ_3, zuP_1, zuP_2, zuP_3, zuC_1, zuC_2, reduceIte, Nat.reduceEqDiff, false_and, and_false, true_and, and_true, and_self, or_true, true_or, or_false, false_or] at tr76_1006
            have tr76_1008 := zsm_at hz76 1008 w 0 (by decide)
            try simp only [zuI_1, zuI_2, zuJ_1, zuJ_2, zuJ_3, zuP_1, zuP_2, zuP_3, zuC_1, zuC_2, reduceIte, Nat.reduceEqDiff, false_and, and_false, true_and, and_true, and_self, or_true, true_or, or_false, false_or] at tr76_1008
            have tr76_1009 := zsm_at hz76 1009 w 0 (by decide)
            try simp only [zuI_1, zuI_2, zuJ_1, zuJ_2, zuJ_3, zuP_1, zuP_2, zuP_3, zuC_1, zuC_2, reduceIte, Nat.reduceEqDiff, false_and, and_false, true_and, and_true, and_self, or_true, true_or, or_false, false_or] at tr76_1009
            have hMI := hq76.1
            have hPI76 := hq76.2.1
            have top := hq76.2.2 (by omega)
            have p1b := hPI76.1
            have p2b := hPI76.2.1
            have p3b := hPI76.2.2.1
            have p4b := hPI76.2.2.2
            have k3b := c3_le (G76.1 2077 (Γ.2.1 w 40)) (G76.1 1042 w 0).toNat
            have k0b := c0_le (G76.1 2077 (Γ.2.1 w 40)) (G76.1 1042 w 0).toNat
            refine zs_good (fun hGdh => ?_)
            have hbh_1042 := hGdh.1 1042 w 0
            rw [r_1042] at hbh_1042
            have hz0 : G76.1 1042 w 0 = 0 := by
              rcases top with q | q
              · exact q
              · rcases Int.lt_or_le 0 (G76.1 1042 w 0) with q2 | q2
                · have c0p := (c0_pop (W := G76.1 2077 (Γ.2.1 w 40)) (n := G76.1 1042 w 0) (by omega)).1 q
                  have c0l := c0_le (G76.1 2077 (Γ.2.1 w 40)) (G76.1 1042 w 0 - 1).toNat
                  omega
                · omega
            have hTI : TI w G76 := (by repeat (first | assumption | refine TI_I (by decide) ?_ | refine TI_sm (by assumption) (by decide) ?_))
            refine zs_iconst (pc := 79) C dX9_sumRead_79 (by decide) ?_
            exact zs_zret (pc := 80) C hr hlk dX9_sumRead_80 (by omega) ⟨by repeat (first | exact zsm_rf | assumption | refine zsm_C (by decide) ?_ | refine zsm_I (by decide) ?_ | refine zsm_J ?_ | refine zsm_c (by assumption) (by decide) ?_), ⟨by omega, by assumption, fun q => by first | (exfalso; omega) | exact ⟨hTI, by omega, by omega, by omega⟩⟩⟩
          · skip
            refine zs_aload_n (pc := 48) C dX9_sumRead_48 rfl ?_
            refine zs_getz (r := 1046) (pc := 49) C dX9_sumRead_49 w_X9_345 f_10_46 rfl (r_1046 0) (fun v49 e49 l49 u49 => ?_)
            refine zs_if_eq (tgt := 65) (pc := 52) C dX9_sumRead_52 (by decide) (fun h52 => ?_) (fun h52 => ?_)
            · skip
              refine zs_aload_n (pc := 65) C dX9_sumRead_65 rfl ?_
              refine zVi0 (pc := 66) C dX9_sumRead_66 v_X9_354 (c_X9_signs hX (by repeat (first | assumption | refine MI_I (by decide) ?_ | refine MI_J ?_ | refine MI_sm (by assumption) (by decide) ?_ | refine MI_sn (by assumption) (by decide) ?_)) (by repeat (first | assumption | refine TI_I (by decide) ?_ | refine TI_sm (by assumption) (by decide) ?_)) (by repeat (first | assumption | refine PI_I (by decide) ?_ | refine PI_sm (by assumption) (by decide) ?_)) (by omega)) (by decide) (by decide) ⟨Nat.zero_le _, Nat.zero_le _⟩ (Nat.le_of_ble_eq_true rfl) (fun x66 G66 l66 u66 hp66 => ?_)
              obtain ⟨hz66, hq66⟩ := hp66
              have tr66_1006 := zsm_at hz66 1006 w 0 (by decide)
              try simp only [zuI_1, zuI_2, zuJ_1, zuJ_2, zuJ_3, zuP_1, zuP_2, zuP_3, zuC_1, zuC_2, reduceIte, Nat.reduceEqDiff, false_and, and_false, true_and, and_true, and_self, or_true, true_or, or_false, false_or] at tr66_1006
              have hMI := hq66.2.1
              have hx := hq66.2.2
              refine zs_if_ne (tgt := 25) (pc := 69) C dX9_sumRead_69 (by decide) (fun h69 => ?_) (fun h69 => ?_)
              · skip
                exact zs_wk (ih25 _ (by repeat (first | exact zsm_rf | assumption | refine zsm_C (by decide) ?_ | refine zsm_I (by decide) ?_ | refine zsm_J ?_ | refine zsm_c (by assumption) (by decide) ?_)) hMI (hx (by omega)).1 (hx (by omega)).2.1 (by have hx2 := (hx (by omega)).2.2; omega) (by have hx2 := (hx (by omega)).2.2; omega)) (zwk_s rfl zwk_0)
              · skip
                refine zs_iconst (pc := 72) C dX9_sumRead_72 (by decide) ?_
                exact zs_zret (pc := 73) C hr hlk dX9_sumRead_73 (by omega) ⟨by repeat (first | exact zsm_rf | assumption | refine zsm_C (by decide) ?_ | refine zsm_I (by decide) ?_ | refine zsm_J ?_ | refine zsm_c (by assumption) (by decide) ?_), ⟨by omega, by assumption, fun q => by first | (exfalso; omega) | exact ⟨hTI, by omega, by omega, by omega⟩⟩⟩
            · skip
              refine zs_aload_n (pc := 55) C dX9_sumRead_55 rfl ?_
              refine zVi0 (pc := 56) C dX9_sumRead_56 v_X9_351 (c_X9_leafRead hX (by repeat (first | assumption | refine MI_I (by decide) ?_ | refine MI_J ?_ | refine MI_sm (by assumption) (by decide) ?_ | refine MI_sn (by assumption) (by decide) ?_)) (by repeat (first | assumption | refine TI_I (by decide) ?_ | refine TI_sm (by assumption) (by decide) ?_)) (by repeat (first | assumption | refine PI_I (by decide) ?_ | refine PI_sm (by assumption) (by decide) ?_)) (by omega)) (by decide) (by decide) ⟨Nat.zero_le _, Nat.zero_le _⟩ (Nat.le_of_ble_eq_true rfl) (fun x56 G56 l56 u56 hp56 => ?_)
              obtain ⟨hz56, hq56⟩ := hp56
              have tr56_1006 := zsm_at hz56 1006 w 0 (by decide)
              try simp only [zuI_1, zuI_2, zuJ_1, zuJ_2, zuJ_3, zuP_1, zuP_2, zuP_3, zuC_1, zuC_2, reduceIte, Nat.reduceEqDiff, false_and, and_false, true_and, and_true, and_self, or_true, true_or, or_false, false_or] at tr56_1006
              have hMI := hq56.2.1
              have hx := hq56.2.2
              refine zs_if_eq (tgt := 72) (pc := 59) C dX9_sumRead_59 (by decide) (fun h59 => ?_) (fun h59 => ?_)
              · skip
                refine zs_iconst (pc := 72) C dX9_sumRead_72 (by decide) ?_
                exact zs_zret (pc := 73) C hr hlk dX9_sumRead_73 (by omega) ⟨by repeat (first | exact zsm_rf | assumption | refine zsm_C (by decide) ?_ | refine zsm_I (by decide) ?_ | refine zsm_J ?_ | refine zsm_c (by assumption) (by decide) ?_), ⟨by omega, by assumption, fun q => by first | (exfalso; omega) | exact ⟨hTI, by omega, by omega, by omega⟩⟩⟩
              · skip
                refine zs_goto (tgt := 25) (pc := 62) C dX9_sumRead_62 (by decide) ?_
                exact zs_wk (ih25 _ (by repeat (first | exact zsm_rf | assumption | refine zsm_C (by decide) ?_ | refine zsm_I (by decide) ?_ | refine zsm_J ?_ | refine zsm_c (by assumption) (by decide) ?_)) hMI (hx (by omega)).1 (hx (by omega)).2.1 (by have hx2 := (hx (by omega)).2.2; omega) (by have hx2 := (hx (by omega)).2.2; omega)) (zwk_s rfl zwk_0)
  exact zs_wk (L25 _ _ (by repeat (first | exact zsm_rf | assumption | refine zsm_C (by decide) ?_ | refine zsm_I (by decide) ?_ | refine zsm_J ?_ | refine zsm_c (by assumption) (by decide) ?_)) (by repeat (first | assumption | refine MI_I (by decide) ?_ | refine MI_J ?_ | refine MI_sm (by assumption) (by decide) ?_ | refine MI_sn (by assumption) (by decide) ?_)) (by repeat (first | assumption | refine TI_I (by decide) ?_ | refine TI_sm (by assumption) (by decide) ?_)) (PI_0 (by first | omega | (simp only [zuI_1, zuI_2, zuJ_1, zuJ_2, zuJ_3, zuP_1, zuP_2, zuP_3, zuC_1, zuC_2, reduceIte, Nat.reduceEqDiff, false_and, and_false, true_and, and_true, and_self, or_true, true_or, or_false, false_or] <;> omega)) (by first | omega | (simp only [zuI_1, zuI_2, zuJ_1, zuJ_2, zuJ_3, zuP_1, zuP_2, zuP_3, zuC_1, zuC_2, reduceIte, Nat.reduceEqDiff, false_and, and_false, true_and, and_true, and_self, or_true, true_or, or_false, false_or] <;> omega)) (by first | omega | (simp only [zuI_1, zuI_2, zuJ_1, zuJ_2, zuJ_3, zuP_1, zuP_2, zuP_3, zuC_1, zuC_2, reduceIte, Nat.reduceEqDiff, false_and, and_false, true_and, and_true, and_self, or_true, true_or, or_false, false_or] <;> omega)) (by first | omega | (simp only [zuI_1, zuI_2, zuJ_1, zuJ_2, zuJ_3, zuP_1, zuP_2, zuP_3, zuC_1, zuC_2, reduceIte, Nat.reduceEqDiff, false_and, and_false, true_and, and_true, and_self, or_true, true_or, or_false, false_or] <;> omega)) (by first | omega | (simp only [zuI_1, zuI_2, zuJ_1, zuJ_2, zuJ_3, zuP_1, zuP_2, zuP_3, zuC_1, zuC_2, reduceIte, Nat.reduceEqDiff, false_and, and_false, true_and, and_true, and_self, or_true, true_or, or_false, false_or] <;> omega))) (by first | omega | (simp only [zuI_1, zuI_2, zuJ_1, zuJ_2, zuJ_3, zuP_1, zuP_2, zuP_3, zuC_1, zuC_2, reduceIte, Nat.reduceEqDiff, false_and, and_false, true_and, and_true, and_self, or_true, true_or, or_false, false_or]; omega)) (Nat.lt_succ_self _)) (zwk_s rfl zwk_0)
