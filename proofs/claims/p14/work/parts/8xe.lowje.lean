set_option maxHeartbeats 4000000 in
set_option maxRecDepth 100000 in
theorem c_X9_leafReadY {l : Launch} {Γ : zΓ} {G : zH} {w : Nat} {b : Nat → Int} {n : Int} {A : aS}  (hX : zXs Γ) (hM : MI Γ w G)(hG : gT b n Γ w A G) (hQ : PI Γ w G) (hK : gK Γ w A G) (hE : gE Γ w A G) (h0 : A 1 0 = 0) (h4 : G.1 1004 w 0 = 0 ∧ G.1 1005 w 0 = A 2 0) (hw : G.1 1046 w 0 = 1) : zMet l Γ yX9_leafRead cX9_leafRead 2 (some .boolean) 2 [zr 10 w] G (zpi (fun x G' => zsm [1007, 1008, 1009, 1010, 1004, 1005, 2074, 2075, 2076, 2078, 1043, 1021, 2077, 1042, 1044, 1045, 1046, 1047] G G' ∧ LJr G G' ∧ ((x = 0 ∨ x = 1) ∧ MI Γ w G' ∧ (x = 1 → PI Γ w G' ∧ G.1 1010 w 0 < G'.1 1010 w 0 ∧ gX b n Γ w (sSide b n A) G') ∧ (x = 0 → FT w (sSide b n A) G')))) := by
  have g10 := hG.2.2.2.2.1
  have p1 := hQ.1
  have p2 := hQ.2.1
  have p3 := hQ.2.2.1
  have p4 := hQ.2.2.2
  have k3 := c3_le (G.1 2077 (Γ.2.1 w 40)) (G.1 1042 w 0).toNat
  have k0 := c0_le (G.1 2077 (Γ.2.1 w 40)) (G.1 1042 w 0).toNat
  have aa42 := hE.1
  have aa43 := hE.2.1
  have aa44 := hE.2.2.1
  have aa46 := hE.2.2.2.1
  have aa47 := hE.2.2.2.2.1
  have aa21 := hK.1
  have aa45 := hK.2.1
  refine zMet_of RX9 hX (by decide) rfl (Nat.le_of_ble_eq_true rfl) ?_
  intro p e s m args below meth c C hr hlk
  show Z p l e (zrm 2) s m args below meth c Γ 2 0 0 (MQ below (zQc Γ (zpi (fun x G' => zsm [1007, 1008, 1009, 1010, 1004, 1005, 2074, 2075, 2076, 2078, 1043, 1021, 2077, 1042, 1044, 1045, 1046, 1047] G G' ∧ LJr G G' ∧ ((x = 0 ∨ x = 1) ∧ MI Γ w G' ∧ (x = 1 → PI Γ w G' ∧ G.1 1010 w 0 < G'.1 1010 w 0 ∧ gX b n Γ w (sSide b n A) G') ∧ (x = 0 → FT w (sSide b n A) G'))))) args s 0 0 (zA Γ)) 0 [some (zr 10 w), none] [] G
  refine zs_good (fun hGdg => ?_)
  have hbg_1042 := hGdg.1 1042 w 0
  rw [r_1042] at hbg_1042
  have hbg_1044 := hGdg.1 1044 w 0
  rw [r_1044] at hbg_1044
  have hbg_1045 := hGdg.1 1045 w 0
  rw [r_1045] at hbg_1045
  have hbg_1021 := hGdg.1 1021 w 0
  rw [r_1021] at hbg_1021
  refine zs_aload_n (pc := 0) C dX9_leafRead_0 rfl ?_
  refine zs_bipush (pc := 1) C dX9_leafRead_1 (by decide) (by decide) ?_
  refine zVip1 (pc := 3) C dX9_leafRead_3 v_X9_233 (c_X9_isSignG hX ) (by decide) (by decide) ⟨Nat.zero_le _, Nat.zero_le _⟩ (Nat.le_of_ble_eq_true rfl) (fun x3 l3 u3 hp3 => ?_)
  have hq3 := hp3
  have z3 := hq3.2.trans (gT_sig hG (c := 40) (s := 15) (by omega))
  have y3 := hq3.1
  clear hq3 hp3
  refine zs_if_eq (tgt := 50) (pc := 6) C dX9_leafRead_6 (by decide) (fun h6 => ?_) (fun h6 => ?_)
  · skip
    have r3 : ¬ (tK b n A = 4 ∧ tV b n A = 15) := fun q => (by have q2 := z3.mpr q; omega)
    clear z3
    have J86 : ∀ (G0 : zH), (G0 = G) → (¬ (tK b n A = 2 ∧ tV b n A = 16 ∧ A 25 0 ≠ 0)) → Z p l e (zrm 2) s m args below meth c Γ 2 0 0 (MQ below (zQc Γ (zpi (fun x G' => zsm [1007, 1008, 1009, 1010, 1004, 1005, 2074, 2075, 2076, 2078, 1043, 1021, 2077, 1042, 1044, 1045, 1046, 1047] G G' ∧ LJr G G' ∧ ((x = 0 ∨ x = 1) ∧ MI Γ w G' ∧ (x = 1 → PI Γ w G' ∧ G.1 1010 w 0 < G'.1 1010 w 0 ∧ gX b n Γ w (sSide b n A) G') ∧ (x = 0 → FT w (sSide b n A) G'))))) args s 0 0 (zA Γ)) 86 [some (zr 10 w), none] [] G0 := by
      intro G0 h86_0 h86_1
      rw [h86_0]
      refine zs_aload_n (pc := 86) C dX9_leafRead_86 rfl ?_
      refine zVip0 (pc := 87) C dX9_leafRead_87 v_X9_342 (c_X9_nameMetG hX ) (by decide) (by decide) ⟨Nat.zero_le _, Nat.zero_le _⟩ (Nat.le_of_ble_eq_true rfl) (fun x87 l87 u87 hp87 => ?_)
      have hq87 := hp87
      have z87 := nm_c hG hq87
      clear hq87 hp87
      refine zs_istore_n (pc := 90) C dX9_leafRead_90 (by decide) ?_
      dsimp only [zset, zclr, znone]
      have J129 : ∀ (x1 : Int), (lfX b n A x1 (G.1 1009 w 0)) → Z p l e (zrm 2) s m args below meth c Γ 2 0 0 (MQ below (zQc Γ (zpi (fun x G' => zsm [1007, 1008, 1009, 1010, 1004, 1005, 2074, 2075, 2076, 2078, 1043, 1021, 2077, 1042, 1044, 1045, 1046, 1047] G G' ∧ LJr G G' ∧ ((x = 0 ∨ x = 1) ∧ MI Γ w G' ∧ (x = 1 → PI Γ w G' ∧ G.1 1010 w 0 < G'.1 1010 w 0 ∧ gX b n Γ w (sSide b n A) G') ∧ (x = 0 → FT w (sSide b n A) G'))))) args s 0 0 (zA Γ)) 129 [some (zr 10 w), some (zi x1)] [] G := by
        intro x1 h129_0
        have hlf := lfX_s h129_0
        clear h129_0 z87 h86_1 r3 y3
        refine zs_aload_n (pc := 129) C dX9_leafRead_129 rfl ?_
        refine zVi0 (pc := 130) C dX9_leafRead_130 v_X9_339 (c_X9_isCountedY hX ) (by decide) (by decide) ⟨Nat.zero_le _, Nat.zero_le _⟩ (Nat.le_of_ble_eq_true rfl) (fun x130 G130 l130 u130 hp130 => ?_)
        obtain ⟨hz130, lo130, hq130⟩ := hp130
        have tr130_1042 := zsm_at hz130 1042 w 0 (by decide)
        try simp only [zuI_1, zuI_2, zuJ_1, zuJ_2, zuJ_3, zuP_1, zuP_2, zuP_3, zuC_1, zuC_2, reduceIte, Nat.reduceEqDiff, false_and, and_false, true_and, and_true, and_self, or_true, true_or, or_false, false_or] at tr130_1042
        have tr130_1043 := zsm_at hz130 1043 w 0 (by decide)
        try simp only [zuI_1, zuI_2, zuJ_1, zuJ_2, zuJ_3, zuP_1, zuP_2, zuP_3, zuC_1, zuC_2, reduceIte, Nat.reduceEqDiff, false_and, and_false, true_and, and_true, and_self, or_true, true_or, or_false, false_or] at tr130_1043
        have tr130_1044 := zsm_at hz130 1044 w 0 (by decide)
        try simp only [zuI_1, zuI_2, zuJ_1, zuJ_2, zuJ_3, zuP_1, zuP_2, zuP_3, zuC_1, zuC_2, reduceIte, Nat.reduceEqDiff, false_and, and_false, true_and, and_true, and_self, or_true, true_or, or_false, false_or] at tr130_1044
        have tr130_1046 := zsm_at hz130 1046 w 0 (by decide)
        try simp only [zuI_1, zuI_2, zuJ_1, zuJ_2, zuJ_3, zuP_1, zuP_2, zuP_3, zuC_1, zuC_2, reduceIte, Nat.reduceEqDiff, false_and, and_false, true_and, and_true, and_self, or_true, true_or, or_false, false_or] at tr130_1046
        have tr130_1021 := zsm_at hz130 1021 w 0 (by decide)
        try simp only [zuI_1, zuI_2, zuJ_1, zuJ_2, zuJ_3, zuP_1, zuP_2, zuP_3, zuC_1, zuC_2, reduceIte, Nat.reduceEqDiff, false_and, and_false, true_and, and_true, and_self, or_true, true_or, or_false, false_or] at tr130_1021
        have tr130_1007 := zsm_at hz130 1007 w 0 (by decide)
        try simp only [zuI_1, zuI_2, zuJ_1, zuJ_2, zuJ_3, zuP_1, zuP_2, zuP_3, zuC_1, zuC_2, reduceIte, Nat.reduceEqDiff, false_and, and_false, true_and, and_true, and_self, or_true, true_or, or_false, false_or] at tr130_1007
        have tr130_1010 := zsm_at hz130 1010 w 0 (by decide)
        try simp only [zuI_1, zuI_2, zuJ_1, zuJ_2, zuJ_3, zuP_1, zuP_2, zuP_3, zuC_1, zuC_2, reduceIte, Nat.reduceEqDiff, false_and, and_false, true_and, and_true, and_self, or_true, true_or, or_false, false_or] at tr130_1010
        have tr130_1006 := zsm_at hz130 1006 w 0 (by decide)
        try simp only [zuI_1, zuI_2, zuJ_1, zuJ_2, zuJ_3, zuP_1, zuP_2, zuP_3, zuC_1, zuC_2, reduceIte, Nat.reduceEqDiff, false_and, and_false, true_and, and_true, and_self, or_true, true_or, or_false, false_or] at tr130_1006
        have tr130_1008 := zsm_at hz130 1008 w 0 (by decide)
        try simp only [zuI_1, zuI_2, zuJ_1, zuJ_2, zuJ_3, zuP_1, zuP_2, zuP_3, zuC_1, zuC_2, reduceIte, Nat.reduceEqDiff, false_and, and_false, true_and, and_true, and_self, or_true, true_or, or_false, false_or] at tr130_1008
        have tr130_1009 := zsm_at hz130 1009 w 0 (by decide)
        try simp only [zuI_1, zuI_2, zuJ_1, zuJ_2, zuJ_3, zuP_1, zuP_2, zuP_3, zuC_1, zuC_2, reduceIte, Nat.reduceEqDiff, false_and, and_false, true_and, and_true, and_self, or_true, true_or, or_false, false_or] at tr130_1009
        refine zs_if_ne (tgt := 138) (pc := 133) C dX9_leafRead_133 (by decide) (fun h133 => ?_) (fun h133 => ?_)
        · skip
          refine zs_good (fun hGdh => ?_)
          have hbh_1045 := hGdh.1 1045 w 0
          rw [r_1045] at hbh_1045
          have c130 := hq130.2.1 (by omega)
          clear hq130
          refine zs_aload_n (pc := 138) C dX9_leafRead_138 rfl ?_
          refine zs_iload_n (pc := 139) C dX9_leafRead_139 rfl ?_
          refine zs_if_lt (tgt := 147) (pc := 140) C dX9_leafRead_140 (by decide) (fun h140 => ?_) (fun h140 => ?_)
          · skip
            refine zs_iconst (pc := 147) C dX9_leafRead_147 (by decide) ?_
            refine zs_iload_n (pc := 148) C dX9_leafRead_148 rfl ?_
            refine zs_if_lt (tgt := 156) (pc := 149) C dX9_leafRead_149 (by decide) (fun h149 => ?_) (fun h149 => ?_)
            · skip
              refine zs_aload_n (pc := 156) C dX9_leafRead_156 rfl ?_
              refine zs_geti (r := 1009) (pc := 157) C dX9_leafRead_157 w_X9_207 f_10_9 rfl (r_1009 0) (fun v157 e157 l157 u157 => ?_)
              refine zs_iconst (pc := 160) C dX9_leafRead_160 (by decide) ?_
              refine zVv3 (pc := 161) C dX9_leafRead_161 v_X9_324 (c_X9_grownY hX (by repeat (first | assumption | refine MI_I (by decide) ?_ | refine MI_J ?_ | refine MI_sm (by assumption) (by decide) ?_ | refine MI_sn (by assumption) (by decide) ?_)) (by first | omega | (simp only [zuI_1, zuI_2, zuJ_1, zuJ_2, zuJ_3, zuP_1, zuP_2, zuP_3, zuC_1, zuC_2, reduceIte, Nat.reduceEqDiff, false_and, and_false, true_and, and_true, and_self, or_true, true_or, or_false, false_or]; omega)) (by first | omega | (simp only [zuI_1, zuI_2, zuJ_1, zuJ_2, zuJ_3, zuP_1, zuP_2, zuP_3, zuC_1, zuC_2, reduceIte, Nat.reduceEqDiff, false_and, and_false, true_and, and_true, and_self, or_true, true_or, or_false, false_or]; omega)) (by first | omega | (simp only [zuI_1, zuI_2, zuJ_1, zuJ_2, zuJ_3, zuP_1, zuP_2, zuP_3, zuC_1, zuC_2, reduceIte, Nat.reduceEqDiff, false_and, and_false, true_and, and_true, and_self, or_true, true_or, or_false, false_or]; omega)) ⟨fun q => by omega, fun q => by omega, fun q => by omega⟩ (by first | omega | (simp only [zuI_1, zuI_2, zuJ_1, zuJ_2, zuJ_3, zuP_1, zuP_2, zuP_3, zuC_1, zuC_2, reduceIte, Nat.reduceEqDiff, false_and, and_false, true_and, and_true, and_self, or_true, true_or, or_false, false_or]; omega))) (by decide) (by decide) ⟨Nat.zero_le _, Nat.zero_le _⟩ (Nat.le_of_ble_eq_true rfl) (fun G161 hp161 => ?_)
              obtain ⟨hz161, lo161, hq161⟩ := hp161
              have tr161_1042 := zsm_at hz161 1042 w 0 (by decide)
              try simp only [zuI_1, zuI_2, zuJ_1, zuJ_2, zuJ_3, zuP_1, zuP_2, zuP_3, zuC_1, zuC_2, reduceIte, Nat.reduceEqDiff, false_and, and_false, true_and, and_true, and_self, or_true, true_or, or_false, false_or] at tr161_1042
              have tr161_1044 := zsm_at hz161 1044 w 0 (by decide)
              try simp only [zuI_1, zuI_2, zuJ_1, zuJ_2, zuJ_3, zuP_1, zuP_2, zuP_3, zuC_1, zuC_2, reduceIte, Nat.reduceEqDiff, false_and, and_false, true_and, and_true, and_self, or_true, true_or, or_false, false_or] at tr161_1044
              have tr161_1045 := zsm_at hz161 1045 w 0 (by decide)
              try simp only [zuI_1, zuI_2, zuJ_1, zuJ_2, zuJ_3, zuP_1, zuP_2, zuP_3, zuC_1, zuC_2, reduceIte, Nat.reduceEqDiff, false_and, and_false, true_and, and_true, and_self, or_true, true_or, or_false, false_or] at tr161_1045
              have tr161_1046 := zsm_at hz161 1046 w 0 (by decide)
              try simp only [zuI_1, zuI_2, zuJ_1, zuJ_2, zuJ_3, zuP_1, zuP_2, zuP_3, zuC_1, zuC_2, reduceIte, Nat.reduceEqDiff, false_and, and_false, true_and, and_true, and_self, or_true, true_or, or_false, false_or] at tr161_1046
              have tr161_1007 := zsm_at hz161 1007 w 0 (by decide)
              try simp only [zuI_1, zuI_2, zuJ_1, zuJ_2, zuJ_3, zuP_1, zuP_2, zuP_3, zuC_1, zuC_2, reduceIte, Nat.reduceEqDiff, false_and, and_false, true_and, and_true, and_self, or_true, true_or, or_false, false_or] at tr161_1007
              have tr161_1010 := zsm_at hz161 1010 w 0 (by decide)
              try simp only [zuI_1, zuI_2, zuJ_1, zuJ_2, zuJ_3, zuP_1, zuP_2, zuP_3, zuC_1, zuC_2, reduceIte, Nat.reduceEqDiff, false_and, and_false, true_and, and_true, and_self, or_true, true_or, or_false, false_or] at tr161_1010
              have tr161_1006 := zsm_at hz161 1006 w 0 (by decide)
              try simp only [zuI_1, zuI_2, zuJ_1, zuJ_2, zuJ_3, zuP_1, zuP_2, zuP_3, zuC_1, zuC_2, reduceIte, Nat.reduceEqDiff, false_and, and_false, true_and, and_true, and_self, or_true, true_or, or_false, false_or] at tr161_1006
              have tr161_1008 := zsm_at hz161 1008 w 0 (by decide)
              try simp only [zuI_1, zuI_2, zuJ_1, zuJ_2, zuJ_3, zuP_1, zuP_2, zuP_3, zuC_1, zuC_2, reduceIte, Nat.reduceEqDiff, false_and, and_false, true_and, and_true, and_self, or_true, true_or, or_false, false_or] at tr161_1008
              have tr161_1009 := zsm_at hz161 1009 w 0 (by decide)
              try simp only [zuI_1, zuI_2, zuJ_1, zuJ_2, zuJ_3, zuP_1, zuP_2, zuP_3, zuC_1, zuC_2, reduceIte, Nat.reduceEqDiff, false_and, and_false, true_and, and_true, and_self, or_true, true_or, or_false, false_or] at tr161_1009
              have hMI := hq161.1
              refine zs_aload_n (pc := 164) C dX9_leafRead_164 rfl ?_
              refine zs_iconst (pc := 165) C dX9_leafRead_165 (by decide) ?_
              refine zs_putz (r := 1046) (pc := 166) C dX9_leafRead_166 w_X9_345 f_10_46 rfl (r_1046 0) (by omega) (by omega) ?_
              refine zs_aload_n (pc := 169) C dX9_leafRead_169 rfl ?_
              refine zVv0 (pc := 170) C dX9_leafRead_170 v_X9_230 (c_X9_tokenGY hX (by repeat (first | assumption | decide | apply gT_I | apply gT_sm))) (by decide) (by decide) ⟨Nat.zero_le _, Nat.zero_le _⟩ (Nat.le_of_ble_eq_true rfl) (fun G170 hp170 => ?_)
              obtain ⟨hz170, lo170, hq170⟩ := hp170
              try simp only [zuI_1, zuI_2, zuJ_1, zuJ_2, zuJ_3, zuP_1, zuP_2, zuP_3, zuC_1, zuC_2, reduceIte, Nat.reduceEqDiff, false_and, and_false, true_and, and_true, and_self, or_true, true_or, or_false, false_or] at hq170
              have tr170_1042 := zsm_at hz170 1042 w 0 (by decide)
              try simp only [zuI_1, zuI_2, zuJ_1, zuJ_2, zuJ_3, zuP_1, zuP_2, zuP_3, zuC_1, zuC_2, reduceIte, Nat.reduceEqDiff, false_and, and_false, true_and, and_true, and_self, or_true, true_or, or_false, false_or] at tr170_1042
              have tr170_1043 := zsm_at hz170 1043 w 0 (by decide)
              try simp only [zuI_1, zuI_2, zuJ_1, zuJ_2, zuJ_3, zuP_1, zuP_2, zuP_3, zuC_1, zuC_2, reduceIte, Nat.reduceEqDiff, false_and, and_false, true_and, and_true, and_self, or_true, true_or, or_false, false_or] at tr170_1043
              have tr170_1044 := zsm_at hz170 1044 w 0 (by decide)
              try simp only [zuI_1, zuI_2, zuJ_1, zuJ_2, zuJ_3, zuP_1, zuP_2, zuP_3, zuC_1, zuC_2, reduceIte, Nat.reduceEqDiff, false_and, and_false, true_and, and_true, and_self, or_true, true_or, or_false, false_or] at tr170_1044
              have tr170_1045 := zsm_at hz170 1045 w 0 (by decide)
              try simp only [zuI_1, zuI_2, zuJ_1, zuJ_2, zuJ_3, zuP_1, zuP_2, zuP_3, zuC_1, zuC_2, reduceIte, Nat.reduceEqDiff, false_and, and_false, true_and, and_true, and_self, or_true, true_or, or_false, false_or] at tr170_1045
              have tr170_1046 := zsm_at hz170 1046 w 0 (by decide)
              try simp only [zuI_1, zuI_2, zuJ_1, zuJ_2, zuJ_3, zuP_1, zuP_2, zuP_3, zuC_1, zuC_2, reduceIte, Nat.reduceEqDiff, false_and, and_false, true_and, and_true, and_self, or_true, true_or, or_false, false_or] at tr170_1046
              have tr170_1021 := zsm_at hz170 1021 w 0 (by decide)
              try simp only [zuI_1, zuI_2, zuJ_1, zuJ_2, zuJ_3, zuP_1, zuP_2, zuP_3, zuC_1, zuC_2, reduceIte, Nat.reduceEqDiff, false_and, and_false, true_and, and_true, and_self, or_true, true_or, or_false, false_or] at tr170_1021
              have tr170_1006 := zsm_at hz170 1006 w 0 (by decide)
              try simp only [zuI_1, zuI_2, zuJ_1, zuJ_2, zuJ_3, zuP_1, zuP_2, zuP_3, zuC_1, zuC_2, reduceIte, Nat.reduceEqDiff, false_and, and_false, true_and, and_true, and_self, or_true, true_or, or_false, false_or] at tr170_1006
              have e77 : G170.1 2077 = G.1 2077 := by rw [hz170.1 2077 (by decide), zuI_ne (show (2077 : Nat) ≠ 1046 by decide), hz161.1 2077 (by decide), hz130.1 2077 (by decide)]
              have e42 : G170.1 1042 w 0 = G.1 1042 w 0 := by omega
              have hPI : PI Γ w G170 := by
                unfold PI
                rw [e77, e42]
                exact ⟨by omega, by omega, by omega, fun q => by omega⟩
              have z20 : 0 ≤ A 20 0 ∧ A 20 0 < 64 ∧ 0 ≤ A 29 0 ∧ A 21 0 < 64 := by omega
              have w161 := hq161.2.1
              have v161 := hq161.2.2.1
              obtain ⟨g1, g2, g3, g4⟩ := hq161.2.2.2
              clear hq161 p1 p2 p3 p4 k3 k0 e77 e42
              have m77 : G170.1 2077 = G.1 2077 := by rw [hz170.1 2077 (by decide), zuI_nf (by decide), hz161.1 2077 (by decide), hz130.1 2077 (by decide)]
              have t1004 := zsm_at hz170 1004 w 0 (by decide)
              have t1005 := zsm_at hz170 1005 w 0 (by decide)
              have t1047 := zsm_at hz170 1047 w 0 (by decide)
              have u1004 := zsm_at hz161 1004 w 0 (by decide)
              have u1005 := zsm_at hz161 1005 w 0 (by decide)
              have u1047 := zsm_at hz161 1047 w 0 (by decide)
              have v1047 := zsm_at hz130 1047 w 0 (by decide)
              try simp only [zuI_1, zuI_2, zuJ_1, zuJ_2, zuJ_3, zuP_1, zuP_2, zuP_3, zuC_1, zuC_2, reduceIte, Nat.reduceEqDiff, false_and, and_false, true_and, and_true, and_self, or_true, true_or, or_false, false_or] at t1004 t1005 t1047
              have hgX : gX b n Γ w (sSide b n A) G170 := by
                first
                | (exfalso; omega)
                | (have hS2 := (hlf.1 (by omega)).2.trans (sLeaf_ok h0 (by omega) (by omega))
                   exact gX_leaf (k := 1) (q := x1) (by omega) (by omega) h0 hq170 hK hE hS2 (by omega) (by omega) (by omega) (by omega) (by omega) (by omega) (by omega) (by omega) (by omega) m77
                    (fun j => by rw [hz170.1 2078 (by decide), zuI_nf (by decide), g4 j, hz130.1 2078 (by decide), show (G130.1 1043 w 0).toNat = (A 29 0).toNat by omega, show G130.1 1021 w 0 = A 20 0 by omega])
                    (fun j => by rw [hz170.1 2074 (by decide), zuI_nf (by decide), g1 j, hz130.1 2074 (by decide), show (64 + G130.1 1021 w 0).toNat = (64 + A 20 0).toNat by omega, show rk 1 = 1 from rfl])
                    (fun j => by rw [hz170.1 2075 (by decide), zuI_nf (by decide), g2 j, hz130.1 2075 (by decide), show (64 + G130.1 1021 w 0).toNat = (64 + A 20 0).toNat by omega])
                    (fun j => by rw [hz170.1 2076 (by decide), zuI_nf (by decide), g3 j, hz130.1 2076 (by decide), show (64 + G130.1 1021 w 0).toNat = (64 + A 20 0).toNat by omega]))
                | (have hS2 := (hlf.2.1 (by omega)).2.2.trans (sLeaf_ok h0 (by omega) (by omega))
                   exact gX_leaf (k := 0) (q := G.1 1009 w 0) (by omega) (by omega) h0 hq170 hK hE hS2 (by omega) (by omega) (by omega) (by omega) (by omega) (by omega) (by omega) (by omega) (by omega) m77
                    (fun j => by rw [hz170.1 2078 (by decide), zuI_nf (by decide), g4 j, hz130.1 2078 (by decide), show (G130.1 1043 w 0).toNat = (A 29 0).toNat by omega, show G130.1 1021 w 0 = A 20 0 by omega])
                    (fun j => by rw [hz170.1 2074 (by decide), zuI_nf (by decide), g1 j, hz130.1 2074 (by decide), show (64 + G130.1 1021 w 0).toNat = (64 + A 20 0).toNat by omega, show rk 0 = 0 from rfl])
                    (fun j => by rw [hz170.1 2075 (by decide), zuI_nf (by decide), g2 j, hz130.1 2075 (by decide), show (64 + G130.1 1021 w 0).toNat = (64 + A 20 0).toNat by omega, show v157 = G.1 1009 w 0 by omega])
                    (fun j => by rw [hz170.1 2076 (by decide), zuI_nf (by decide), g3 j, hz130.1 2076 (by decide), show (64 + G130.1 1021 w 0).toNat = (64 + A 20 0).toNat by omega]))
              have hadv := gT_adv hG hq170 hlf.2.2
              refine zs_iconst (pc := 173) C dX9_leafRead_173 (by decide) ?_
              exact zs_zret (pc := 174) C hr hlk dX9_leafRead_174 (by omega) ⟨by repeat (first | exact zsm_rf | assumption | refine zsm_C (by decide) ?_ | refine zsm_I (by decide) ?_ | refine zsm_J ?_ | refine zsm_c (by assumption) (by decide) ?_), (by with_reducible repeat (first | exact LJr_rf | assumption | refine LJr_I (h := 0) (by decide) (Nat.zero_le _) ?_ | refine LJr_I (h := 3) (by decide) (by omega) ?_ | refine LJr_I (h := 4) (by decide) (by omega) ?_ | refine LJr_I (h := 5) (by decide) (by omega) ?_ | refine LJr_I (h := 7) (by decide) (by omega) ?_ | refine LJr_I (h := 20) (by decide) (by omega) ?_ | refine LJr_I (h := 64) (by decide) (by omega) ?_ | refine LJr_c (by assumption) ?_)), ⟨by omega, (by repeat (first | assumption | refine MI_I (by decide) ?_ | refine MI_J ?_ | refine MI_sm (by assumption) (by decide) ?_ | refine MI_sn (by assumption) (by decide) ?_)), fun _ => ⟨hPI, hadv, hgX⟩, fun q => by omega⟩⟩
            · skip
              refine zs_iload_n (pc := 152) C dX9_leafRead_152 rfl ?_
              refine zs_goto (tgt := 160) (pc := 153) C dX9_leafRead_153 (by decide) ?_
              refine zs_iconst (pc := 160) C dX9_leafRead_160 (by decide) ?_
              refine zVv3 (pc := 161) C dX9_leafRead_161 v_X9_324 (c_X9_grownY hX (by repeat (first | assumption | refine MI_I (by decide) ?_ | refine MI_J ?_ | refine MI_sm (by assumption) (by decide) ?_ | refine MI_sn (by assumption) (by decide) ?_)) (by first | omega | (simp only [zuI_1, zuI_2, zuJ_1, zuJ_2, zuJ_3, zuP_1, zuP_2, zuP_3, zuC_1, zuC_2, reduceIte, Nat.reduceEqDiff, false_and, and_false, true_and, and_true, and_self, or_true, true_or, or_false, false_or]; omega)) (by first | omega | (simp only [zuI_1, zuI_2, zuJ_1, zuJ_2, zuJ_3, zuP_1, zuP_2, zuP_3, zuC_1, zuC_2, reduceIte, Nat.reduceEqDiff, false_and, and_false, true_and, and_true, and_self, or_true, true_or, or_false, false_or]; omega)) (by first | omega | (simp only [zuI_1, zuI_2, zuJ_1, zuJ_2, zuJ_3, zuP_1, zuP_2, zuP_3, zuC_1, zuC_2, reduceIte, Nat.reduceEqDiff, false_and, and_false, true_and, and_true, and_self, or_true, true_or, or_false, false_or]; omega)) ⟨fun q => by omega, fun q => by omega, fun q => by omega⟩ (by first | omega | (simp only [zuI_1, zuI_2, zuJ_1, zuJ_2, zuJ_3, zuP_1, zuP_2, zuP_3, zuC_1, zuC_2, reduceIte, Nat.reduceEqDiff, false_and, and_false, true_and, and_true, and_self, or_true, true_or, or_false, false_or]; omega))) (by decide) (by decide) ⟨Nat.zero_le _, Nat.zero_le _⟩ (Nat.le_of_ble_eq_true rfl) (fun G161 hp161 => ?_)
              obtain ⟨hz161, lo161, hq161⟩ := hp161
              have tr161_1042 := zsm_at hz161 1042 w 0 (by decide)
              try simp only [zuI_1, zuI_2, zuJ_1, zuJ_2, zuJ_3, zuP_1, zuP_2, zuP_3, zuC_1, zuC_2, reduceIte, Nat.reduceEqDiff, false_and, and_false, true_and, and_true, and_self, or_true, true_or, or_false, false_or] at tr161_1042
              have tr161_1044 := zsm_at hz161 1044 w 0 (by decide)
              try simp only [zuI_1, zuI_2, zuJ_1, zuJ_2, zuJ_3, zuP_1, zuP_2, zuP_3, zuC_1, zuC_2, reduceIte, Nat.reduceEqDiff, false_and, and_false, true_and, and_true, and_self, or_true, true_or, or_false, false_or] at tr161_1044
              have tr161_1045 := zsm_at hz161 1045 w 0 (by decide)
              try simp only [zuI_1, zuI_2, zuJ_1, zuJ_2, zuJ_3, zuP_1, zuP_2, zuP_3, zuC_1, zuC_2, reduceIte, Nat.reduceEqDiff, false_and, and_false, true_and, and_true, and_self, or_true, true_or, or_false, false_or] at tr161_1045
              have tr161_1046 := zsm_at hz161 1046 w 0 (by decide)
              try simp only [zuI_1, zuI_2, zuJ_1, zuJ_2, zuJ_3, zuP_1, zuP_2, zuP_3, zuC_1, zuC_2, reduceIte, Nat.reduceEqDiff, false_and, and_false, true_and, and_true, and_self, or_true, true_or, or_false, false_or] at tr161_1046
              have tr161_1007 := zsm_at hz161 1007 w 0 (by decide)
              try simp only [zuI_1, zuI_2, zuJ_1, zuJ_2, zuJ_3, zuP_1, zuP_2, zuP_3, zuC_1, zuC_2, reduceIte, Nat.reduceEqDiff, false_and, and_false, true_and, and_true, and_self, or_true, true_or, or_false, false_or] at tr161_1007
              have tr161_1010 := zsm_at hz161 1010 w 0 (by decide)
              try simp only [zuI_1, zuI_2, zuJ_1, zuJ_2, zuJ_3, zuP_1, zuP_2, zuP_3, zuC_1, zuC_2, reduceIte, Nat.reduceEqDiff, false_and, and_false, true_and, and_true, and_self, or_true, true_or, or_false, false_or] at tr161_1010
              have tr161_1006 := zsm_at hz161 1006 w 0 (by decide)
              try simp only [zuI_1, zuI_2, zuJ_1, zuJ_2, zuJ_3, zuP_1, zuP_2, zuP_3, zuC_1, zuC_2, reduceIte, Nat.reduceEqDiff, false_and, and_false, true_and, and_true, and_self, or_true, true_or, or_false, false_or] at tr161_1006
              have tr161_1008 := zsm_at hz161 1008 w 0 (by decide)
              try simp only [zuI_1, zuI_2, zuJ_1, zuJ_2, zuJ_3, zuP_1, zuP_2, zuP_3, zuC_1, zuC_2, reduceIte, Nat.reduceEqDiff, false_and, and_false, true_and, and_true, and_self, or_true, true_or, or_false, false_or] at tr161_1008
              have tr161_1009 := zsm_at hz161 1009 w 0 (by decide)
              try simp only [zuI_1, zuI_2, zuJ_1, zuJ_2, zuJ_3, zuP_1, zuP_2, zuP_3, zuC_1, zuC_2, reduceIte, Nat.reduceEqDiff, false_and, and_false, true_and, and_true, and_self, or_true, true_or, or_false, false_or] at tr161_1009
              have hMI := hq161.1
              refine zs_aload_n (pc := 164) C dX9_leafRead_164 rfl ?_
              refine zs_iconst (pc := 165) C dX9_leafRead_165 (by decide) ?_
              refine zs_putz (r := 1046) (pc := 166) C dX9_leafRead_166 w_X9_345 f_10_46 rfl (r_1046 0) (by omega) (by omega) ?_
              refine zs_aload_n (pc := 169) C dX9_leafRead_169 rfl ?_
              refine zVv0 (pc := 170) C dX9_leafRead_170 v_X9_230 (c_X9_tokenGY hX (by repeat (first | assumption | decide | apply gT_I | apply gT_sm))) (by decide) (by decide) ⟨Nat.zero_le _, Nat.zero_le _⟩ (Nat.le_of_ble_eq_true rfl) (fun G170 hp170 => ?_)
              obtain ⟨hz170, lo170, hq170⟩ := hp170
              try simp only [zuI_1, zuI_2, zuJ_1, zuJ_2, zuJ_3, zuP_1, zuP_2, zuP_3, zuC_1, zuC_2, reduceIte, Nat.reduceEqDiff, false_and, and_false, true_and, and_true, and_self, or_true, true_or, or_false, false_or] at hq170
              have tr170_1042 := zsm_at hz170 1042 w 0 (by decide)
              try simp only [zuI_1, zuI_2, zuJ_1, zuJ_2, zuJ_3, zuP_1, zuP_2, zuP_3, zuC_1, zuC_2, reduceIte, Nat.reduceEqDiff, false_and, and_false, true_and, and_true, and_self, or_true, true_or, or_false, false_or] at tr170_1042
              have tr170_1043 := zsm_at hz170 1043 w 0 (by decide)
              try simp only [zuI_1, zuI_2, zuJ_1, zuJ_2, zuJ_3, zuP_1, zuP_2, zuP_3, zuC_1, zuC_2, reduceIte, Nat.reduceEqDiff, false_and, and_false, true_and, and_true, and_self, or_true, true_or, or_false, false_or] at tr170_1043
              have tr170_1044 := zsm_at hz170 1044 w 0 (by decide)
              try simp only [zuI_1, zuI_2, zuJ_1, zuJ_2, zuJ_3, zuP_1, zuP_2, zuP_3, zuC_1, zuC_2, reduceIte, Nat.reduceEqDiff, false_and, and_false, true_and, and_true, and_self, or_true, true_or, or_false, false_or] at tr170_1044
              have tr170_1045 := zsm_at hz170 1045 w 0 (by decide)
              try simp only [zuI_1, zuI_2, zuJ_1, zuJ_2, zuJ_3, zuP_1, zuP_2, zuP_3, zuC_1, zuC_2, reduceIte, Nat.reduceEqDiff, false_and, and_false, true_and, and_true, and_self, or_true, true_or, or_false, false_or] at tr170_1045
              have tr170_1046 := zsm_at hz170 1046 w 0 (by decide)
              try simp only [zuI_1, zuI_2, zuJ_1, zuJ_2, zuJ_3, zuP_1, zuP_2, zuP_3, zuC_1, zuC_2, reduceIte, Nat.reduceEqDiff, false_and, and_false, true_and, and_true, and_self, or_true, true_or, or_false, false_or] at tr170_1046
              have tr170_1021 := zsm_at hz170 1021 w 0 (by decide)
              try simp only [zuI_1, zuI_2, zuJ_1, zuJ_2, zuJ_3, zuP_1, zuP_2, zuP_3, zuC_1, zuC_2, reduceIte, Nat.reduceEqDiff, false_and, and_false, true_and, and_true, and_self, or_true, true_or, or_false, false_or] at tr170_1021
              have tr170_1006 := zsm_at hz170 1006 w 0 (by decide)
              try simp only [zuI_1, zuI_2, zuJ_1, zuJ_2, zuJ_3, zuP_1, zuP_2, zuP_3, zuC_1, zuC_2, reduceIte, Nat.reduceEqDiff, false_and, and_false, true_and, and_true, and_self, or_true, true_or, or_false, false_or] at tr170_1006
              have e77 : G170.1 2077 = G.1 2077 := by rw [hz170.1 2077 (by decide), zuI_ne (show (2077 : Nat) ≠ 1046 by decide), hz161.1 2077 (by decide), hz130.1 2077 (by decide)]
              have e42 : G170.1 1042 w 0 = G.1 1042 w 0 := by omega
              have hPI : PI Γ w G170 := by
                unfold PI
                rw [e77, e42]
                exact ⟨by omega, by omega, by omega, fun q => by omega⟩
              have z20 : 0 ≤ A 20 0 ∧ A 20 0 < 64 ∧ 0 ≤ A 29 0 ∧ A 21 0 < 64 := by omega
              have w161 := hq161.2.1
              have v161 := hq161.2.2.1
              obtain ⟨g1, g2, g3, g4⟩ := hq161.2.2.2
              clear hq161 p1 p2 p3 p4 k3 k0 e77 e42
              have m77 : G170.1 2077 = G.1 2077 := by rw [hz170.1 2077 (by decide), zuI_nf (by decide), hz161.1 2077 (by decide), hz130.1 2077 (by decide)]
              have t1004 := zsm_at hz170 1004 w 0 (by decide)
              have t1005 := zsm_at hz170 1005 w 0 (by decide)
              have t1047 := zsm_at hz170 1047 w 0 (by decide)
              have u1004 := zsm_at hz161 1004 w 0 (by decide)
              have u1005 := zsm_at hz161 1005 w 0 (by decide)
              have u1047 := zsm_at hz161 1047 w 0 (by decide)
              have v1047 := zsm_at hz130 1047 w 0 (by decide)
              try simp only [zuI_1, zuI_2, zuJ_1, zuJ_2, zuJ_3, zuP_1, zuP_2, zuP_3, zuC_1, zuC_2, reduceIte, Nat.reduceEqDiff, false_and, and_false, true_and, and_true, and_self, or_true, true_or, or_false, false_or] at t1004 t1005 t1047
              have hgX : gX b n Γ w (sSide b n A) G170 := by
                first
                | (exfalso; omega)
                | (have hS2 := (hlf.1 (by omega)).2.trans (sLeaf_ok h0 (by omega) (by omega))
                   exact gX_leaf (k := 1) (q := x1) (by omega) (by omega) h0 hq170 hK hE hS2 (by omega) (by omega) (by omega) (by omega) (by omega) (by omega) (by omega) (by omega) (by omega) m77
                    (fun j => by rw [hz170.1 2078 (by decide), zuI_nf (by decide), g4 j, hz130.1 2078 (by decide), show (G130.1 1043 w 0).toNat = (A 29 0).toNat by omega, show G130.1 1021 w 0 = A 20 0 by omega])
                    (fun j => by rw [hz170.1 2074 (by decide), zuI_nf (by decide), g1 j, hz130.1 2074 (by decide), show (64 + G130.1 1021 w 0).toNat = (64 + A 20 0).toNat by omega, show rk 1 = 1 from rfl])
                    (fun j => by rw [hz170.1 2075 (by decide), zuI_nf (by decide), g2 j, hz130.1 2075 (by decide), show (64 + G130.1 1021 w 0).toNat = (64 + A 20 0).toNat by omega])
                    (fun j => by rw [hz170.1 2076 (by decide), zuI_nf (by decide), g3 j, hz130.1 2076 (by decide), show (64 + G130.1 1021 w 0).toNat = (64 + A 20 0).toNat by omega]))
                | (have hS2 := (hlf.2.1 (by omega)).2.2.trans (sLeaf_ok h0 (by omega) (by omega))
                   exact gX_leaf (k := 0) (q := G.1 1009 w 0) (by omega) (by omega) h0 hq170 hK hE hS2 (by omega) (by omega) (by omega) (by omega) (by omega) (by omega) (by omega) (by omega) (by omega) m77
                    (fun j => by rw [hz170.1 2078 (by decide), zuI_nf (by decide), g4 j, hz130.1 2078 (by decide), show (G130.1 1043 w 0).toNat = (A 29 0).toNat by omega, show G130.1 1021 w 0 = A 20 0 by omega])
                    (fun j => by rw [hz170.1 2074 (by decide), zuI_nf (by decide), g1 j, hz130.1 2074 (by decide), show (64 + G130.1 1021 w 0).toNat = (64 + A 20 0).toNat by omega, show rk 0 = 0 from rfl])
                    (fun j => by rw [hz170.1 2075 (by decide), zuI_nf (by decide), g2 j, hz130.1 2075 (by decide), show (64 + G130.1 1021 w 0).toNat = (64 + A 20 0).toNat by omega, show v157 = G.1 1009 w 0 by omega])
                    (fun j => by rw [hz170.1 2076 (by decide), zuI_nf (by decide), g3 j, hz130.1 2076 (by decide), show (64 + G130.1 1021 w 0).toNat = (64 + A 20 0).toNat by omega]))
              have hadv := gT_adv hG hq170 hlf.2.2
              refine zs_iconst (pc := 173) C dX9_leafRead_173 (by decide) ?_
              exact zs_zret (pc := 174) C hr hlk dX9_leafRead_174 (by omega) ⟨by repeat (first | exact zsm_rf | assumption | refine zsm_C (by decide) ?_ | refine zsm_I (by decide) ?_ | refine zsm_J ?_ | refine zsm_c (by assumption) (by decide) ?_), (by with_reducible repeat (first | exact LJr_rf | assumption | refine LJr_I (h := 0) (by decide) (Nat.zero_le _) ?_ | refine LJr_I (h := 3) (by decide) (by omega) ?_ | refine LJr_I (h := 4) (by decide) (by omega) ?_ | refine LJr_I (h := 5) (by decide) (by omega) ?_ | refine LJr_I (h := 7) (by decide) (by omega) ?_ | refine LJr_I (h := 20) (by decide) (by omega) ?_ | refine LJr_I (h := 64) (by decide) (by omega) ?_ | refine LJr_c (by assumption) ?_)), ⟨by omega, (by repeat (first | assumption | refine MI_I (by decide) ?_ | refine MI_J ?_ | refine MI_sm (by assumption) (by decide) ?_ | refine MI_sn (by assumption) (by decide) ?_)), fun _ => ⟨hPI, hadv, hgX⟩, fun q => by omega⟩⟩
          · skip
            refine zs_iconst (pc := 143) C dX9_leafRead_143 (by decide) ?_
            refine zs_goto (tgt := 148) (pc := 144) C dX9_leafRead_144 (by decide) ?_
            refine zs_iload_n (pc := 148) C dX9_leafRead_148 rfl ?_
            refine zs_if_lt (tgt := 156) (pc := 149) C dX9_leafRead_149 (by decide) (fun h149 => ?_) (fun h149 => ?_)
            · skip
              refine zs_aload_n (pc := 156) C dX9_leafRead_156 rfl ?_
              refine zs_geti (r := 1009) (pc := 157) C dX9_leafRead_157 w_X9_207 f_10_9 rfl (r_1009 0) (fun v157 e157 l157 u157 => ?_)
              refine zs_iconst (pc := 160) C dX9_leafRead_160 (by decide) ?_
              refine zVv3 (pc := 161) C dX9_leafRead_161 v_X9_324 (c_X9_grownY hX (by repeat (first | assumption | refine MI_I (by decide) ?_ | refine MI_J ?_ | refine MI_sm (by assumption) (by decide) ?_ | refine MI_sn (by assumption) (by decide) ?_)) (by first | omega | (simp only [zuI_1, zuI_2, zuJ_1, zuJ_2, zuJ_3, zuP_1, zuP_2, zuP_3, zuC_1, zuC_2, reduceIte, Nat.reduceEqDiff, false_and, and_false, true_and, and_true, and_self, or_true, true_or, or_false, false_or]; omega)) (by first | omega | (simp only [zuI_1, zuI_2, zuJ_1, zuJ_2, zuJ_3, zuP_1, zuP_2, zuP_3, zuC_1, zuC_2, reduceIte, Nat.reduceEqDiff, false_and, and_false, true_and, and_true, and_self, or_true, true_or, or_false, false_or]; omega)) (by first | omega | (simp only [zuI_1, zuI_2, zuJ_1, zuJ_2, zuJ_3, zuP_1, zuP_2, zuP_3, zuC_1, zuC_2, reduceIte, Nat.reduceEqDiff, false_and, and_false, true_and, and_true, and_self, or_true, true_or, or_false, false_or]; omega)) ⟨fun q => by omega, fun q => by omega, fun q => by omega⟩ (by first | omega | (simp only [zuI_1, zuI_2, zuJ_1, zuJ_2, zuJ_3, zuP_1, zuP_2, zuP_3, zuC_1, zuC_2, reduceIte, Nat.reduceEqDiff, false_and, and_false, true_and, and_true, and_self, or_true, true_or, or_false, false_or]; omega))) (by decide) (by decide) ⟨Nat.zero_le _, Nat.zero_le _⟩ (Nat.le_of_ble_eq_true rfl) (fun G161 hp161 => ?_)
              obtain ⟨hz161, lo161, hq161⟩ := hp161
              have tr161_1042 := zsm_at hz161 1042 w 0 (by decide)
              try simp only [zuI_1, zuI_2, zuJ_1, zuJ_2, zuJ_3, zuP_1, zuP_2, zuP_3, zuC_1, zuC_2, reduceIte, Nat.reduceEqDiff, false_and, and_false, true_and, and_true, and_self, or_true, true_or, or_false, false_or] at tr161_1042
              have tr161_1044 := zsm_at hz161 1044 w 0 (by decide)
              try simp only [zuI_1, zuI_2, zuJ_1, zuJ_2, zuJ_3, zuP_1, zuP_2, zuP_3, zuC_1, zuC_2, reduceIte, Nat.reduceEqDiff, false_and, and_false, true_and, and_true, and_self, or_true, true_or, or_false, false_or] at tr161_1044
              have tr161_1045 := zsm_at hz161 1045 w 0 (by decide)
              try simp only [zuI_1, zuI_2, zuJ_1, zuJ_2, zuJ_3, zuP_1, zuP_2, zuP_3, zuC_1, zuC_2, reduceIte, Nat.reduceEqDiff, false_and, and_false, true_and, and_true, and_self, or_true, true_or, or_false, false_or] at tr161_1045
              have tr161_1046 := zsm_at hz161 1046 w 0 (by decide)
              try simp only [zuI_1, zuI_2, zuJ_1, zuJ_2, zuJ_3, zuP_1, zuP_2, zuP_3, zuC_1, zuC_2, reduceIte, Nat.reduceEqDiff, false_and, and_false, true_and, and_true, and_self, or_true, true_or, or_false, false_or] at tr161_1046
              have tr161_1007 := zsm_at hz161 1007 w 0 (by decide)
              try simp only [zuI_1, zuI_2, zuJ_1, zuJ_2, zuJ_3, zuP_1, zuP_2, zuP_3, zuC_1, zuC_2, reduceIte, Nat.reduceEqDiff, false_and, and_false, true_and, and_true, and_self, or_true, true_or, or_false, false_or] at tr161_1007
              have tr161_1010 := zsm_at hz161 1010 w 0 (by decide)
              try simp only [zuI_1, zuI_2, zuJ_1, zuJ_2, zuJ_3, zuP_1, zuP_2, zuP_3, zuC_1, zuC_2, reduceIte, Nat.reduceEqDiff, false_and, and_false, true_and, and_true, and_self, or_true, true_or, or_false, false_or] at tr161_1010
              have tr161_1006 := zsm_at hz161 1006 w 0 (by decide)
              try simp only [zuI_1, zuI_2, zuJ_1, zuJ_2, zuJ_3, zuP_1, zuP_2, zuP_3, zuC_1, zuC_2, reduceIte, Nat.reduceEqDiff, false_and, and_false, true_and, and_true, and_self, or_true, true_or, or_false, false_or] at tr161_1006
              have tr161_1008 := zsm_at hz161 1008 w 0 (by decide)
              try simp only [zuI_1, zuI_2, zuJ_1, zuJ_2, zuJ_3, zuP_1, zuP_2, zuP_3, zuC_1, zuC_2, reduceIte, Nat.reduceEqDiff, false_and, and_false, true_and, and_true, and_self, or_true, true_or, or_false, false_or] at tr161_1008
              have tr161_1009 := zsm_at hz161 1009 w 0 (by decide)
              try simp only [zuI_1, zuI_2, zuJ_1, zuJ_2, zuJ_3, zuP_1, zuP_2, zuP_3, zuC_1, zuC_2, reduceIte, Nat.reduceEqDiff, false_and, and_false, true_and, and_true, and_self, or_true, true_or, or_false, false_or] at tr161_1009
              have hMI := hq161.1
              refine zs_aload_n (pc := 164) C dX9_leafRead_164 rfl ?_
              refine zs_iconst (pc := 165) C dX9_leafRead_165 (by decide) ?_
              refine zs_putz (r := 1046) (pc := 166) C dX9_leafRead_166 w_X9_345 f_10_46 rfl (r_1046 0) (by omega) (by omega) ?_
              refine zs_aload_n (pc := 169) C dX9_leafRead_169 rfl ?_
              refine zVv0 (pc := 170) C dX9_leafRead_170 v_X9_230 (c_X9_tokenGY hX (by repeat (first | assumption | decide | apply gT_I | apply gT_sm))) (by decide) (by decide) ⟨Nat.zero_le _, Nat.zero_le _⟩ (Nat.le_of_ble_eq_true rfl) (fun G170 hp170 => ?_)
              obtain ⟨hz170, lo170, hq170⟩ := hp170
              try simp only [zuI_1, zuI_2, zuJ_1, zuJ_2, zuJ_3, zuP_1, zuP_2, zuP_3, zuC_1, zuC_2, reduceIte, Nat.reduceEqDiff, false_and, and_false, true_and, and_true, and_self, or_true, true_or, or_false, false_or] at hq170
              have tr170_1042 := zsm_at hz170 1042 w 0 (by decide)
              try simp only [zuI_1, zuI_2, zuJ_1, zuJ_2, zuJ_3, zuP_1, zuP_2, zuP_3, zuC_1, zuC_2, reduceIte, Nat.reduceEqDiff, false_and, and_false, true_and, and_true, and_self, or_true, true_or, or_false, false_or] at tr170_1042
              have tr170_1043 := zsm_at hz170 1043 w 0 (by decide)
              try simp only [zuI_1, zuI_2, zuJ_1, zuJ_2, zuJ_3, zuP_1, zuP_2, zuP_3, zuC_1, zuC_2, reduceIte, Nat.reduceEqDiff, false_and, and_false, true_and, and_true, and_self, or_true, true_or, or_false, false_or] at tr170_1043
              have tr170_1044 := zsm_at hz170 1044 w 0 (by decide)
              try simp only [zuI_1, zuI_2, zuJ_1, zuJ_2, zuJ_3, zuP_1, zuP_2, zuP_3, zuC_1, zuC_2, reduceIte, Nat.reduceEqDiff, false_and, and_false, true_and, and_true, and_self, or_true, true_or, or_false, false_or] at tr170_1044
              have tr170_1045 := zsm_at hz170 1045 w 0 (by decide)
              try simp only [zuI_1, zuI_2, zuJ_1, zuJ_2, zuJ_3, zuP_1, zuP_2, zuP_3, zuC_1, zuC_2, reduceIte, Nat.reduceEqDiff, false_and, and_false, true_and, and_true, and_self, or_true, true_or, or_false, false_or] at tr170_1045
              have tr170_1046 := zsm_at hz170 1046 w 0 (by decide)
              try simp only [zuI_1, zuI_2, zuJ_1, zuJ_2, zuJ_3, zuP_1, zuP_2, zuP_3, zuC_1, zuC_2, reduceIte, Nat.reduceEqDiff, false_and, and_false, true_and, and_true, and_self, or_true, true_or, or_false, false_or] at tr170_1046
              have tr170_1021 := zsm_at hz170 1021 w 0 (by decide)
              try simp only [zuI_1, zuI_2, zuJ_1, zuJ_2, zuJ_3, zuP_1, zuP_2, zuP_3, zuC_1, zuC_2, reduceIte, Nat.reduceEqDiff, false_and, and_false, true_and, and_true, and_self, or_true, true_or, or_false, false_or] at tr170_1021
              have tr170_1006 := zsm_at hz170 1006 w 0 (by decide)
              try simp only [zuI_1, zuI_2, zuJ_1, zuJ_2, zuJ_3, zuP_1, zuP_2, zuP_3, zuC_1, zuC_2, reduceIte, Nat.reduceEqDiff, false_and, and_false, true_and, and_true, and_self, or_true, true_or, or_false, false_or] at tr170_1006
              have e77 : G170.1 2077 = G.1 2077 := by rw [hz170.1 2077 (by decide), zuI_ne (show (2077 : Nat) ≠ 1046 by decide), hz161.1 2077 (by decide), hz130.1 2077 (by decide)]
              have e42 : G170.1 1042 w 0 = G.1 1042 w 0 := by omega
              have hPI : PI Γ w G170 := by
                unfold PI
                rw [e77, e42]
                exact ⟨by omega, by omega, by omega, fun q => by omega⟩
              have z20 : 0 ≤ A 20 0 ∧ A 20 0 < 64 ∧ 0 ≤ A 29 0 ∧ A 21 0 < 64 := by omega
              have w161 := hq161.2.1
              have v161 := hq161.2.2.1
              obtain ⟨g1, g2, g3, g4⟩ := hq161.2.2.2
              clear hq161 p1 p2 p3 p4 k3 k0 e77 e42
              have m77 : G170.1 2077 = G.1 2077 := by rw [hz170.1 2077 (by decide), zuI_nf (by decide), hz161.1 2077 (by decide), hz130.1 2077 (by decide)]
              have t1004 := zsm_at hz170 1004 w 0 (by decide)
              have t1005 := zsm_at hz170 1005 w 0 (by decide)
              have t1047 := zsm_at hz170 1047 w 0 (by decide)
              have u1004 := zsm_at hz161 1004 w 0 (by decide)
              have u1005 := zsm_at hz161 1005 w 0 (by decide)
              have u1047 := zsm_at hz161 1047 w 0 (by decide)
              have v1047 := zsm_at hz130 1047 w 0 (by decide)
              try simp only [zuI_1, zuI_2, zuJ_1, zuJ_2, zuJ_3, zuP_1, zuP_2, zuP_3, zuC_1, zuC_2, reduceIte, Nat.reduceEqDiff, false_and, and_false, true_and, and_true, and_self, or_true, true_or, or_false, false_or] at t1004 t1005 t1047
              have hgX : gX b n Γ w (sSide b n A) G170 := by
                first
                | (exfalso; omega)
                | (have hS2 := (hlf.1 (by omega)).2.trans (sLeaf_ok h0 (by omega) (by omega))
                   exact gX_leaf (k := 1) (q := x1) (by omega) (by omega) h0 hq170 hK hE hS2 (by omega) (by omega) (by omega) (by omega) (by omega) (by omega) (by omega) (by omega) (by omega) m77
                    (fun j => by rw [hz170.1 2078 (by decide), zuI_nf (by decide), g4 j, hz130.1 2078 (by decide), show (G130.1 1043 w 0).toNat = (A 29 0).toNat by omega, show G130.1 1021 w 0 = A 20 0 by omega])
                    (fun j => by rw [hz170.1 2074 (by decide), zuI_nf (by decide), g1 j, hz130.1 2074 (by decide), show (64 + G130.1 1021 w 0).toNat = (64 + A 20 0).toNat by omega, show rk 1 = 1 from rfl])
                    (fun j => by rw [hz170.1 2075 (by decide), zuI_nf (by decide), g2 j, hz130.1 2075 (by decide), show (64 + G130.1 1021 w 0).toNat = (64 + A 20 0).toNat by omega])
                    (fun j => by rw [hz170.1 2076 (by decide), zuI_nf (by decide), g3 j, hz130.1 2076 (by decide), show (64 + G130.1 1021 w 0).toNat = (64 + A 20 0).toNat by omega]))
                | (have hS2 := (hlf.2.1 (by omega)).2.2.trans (sLeaf_ok h0 (by omega) (by omega))
                   exact gX_leaf (k := 0) (q := G.1 1009 w 0) (by omega) (by omega) h0 hq170 hK hE hS2 (by omega) (by omega) (by omega) (by omega) (by omega) (by omega) (by omega) (by omega) (by omega) m77
                    (fun j => by rw [hz170.1 2078 (by decide), zuI_nf (by decide), g4 j, hz130.1 2078 (by decide), show (G130.1 1043 w 0).toNat = (A 29 0).toNat by omega, show G130.1 1021 w 0 = A 20 0 by omega])
                    (fun j => by rw [hz170.1 2074 (by decide), zuI_nf (by decide), g1 j, hz130.1 2074 (by decide), show (64 + G130.1 1021 w 0).toNat = (64 + A 20 0).toNat by omega, show rk 0 = 0 from rfl])
                    (fun j => by rw [hz170.1 2075 (by decide), zuI_nf (by decide), g2 j, hz130.1 2075 (by decide), show (64 + G130.1 1021 w 0).toNat = (64 + A 20 0).toNat by omega, show v157 = G.1 1009 w 0 by omega])
                    (fun j => by rw [hz170.1 2076 (by decide), zuI_nf (by decide), g3 j, hz130.1 2076 (by decide), show (64 + G130.1 1021 w 0).toNat = (64 + A 20 0).toNat by omega]))
              have hadv := gT_adv hG hq170 hlf.2.2
              refine zs_iconst (pc := 173) C dX9_leafRead_173 (by decide) ?_
              exact zs_zret (pc := 174) C hr hlk dX9_leafRead_174 (by omega) ⟨by repeat (first | exact zsm_rf | assumption | refine zsm_C (by decide) ?_ | refine zsm_I (by decide) ?_ | refine zsm_J ?_ | refine zsm_c (by assumption) (by decide) ?_), (by with_reducible repeat (first | exact LJr_rf | assumption | refine LJr_I (h := 0) (by decide) (Nat.zero_le _) ?_ | refine LJr_I (h := 3) (by decide) (by omega) ?_ | refine LJr_I (h := 4) (by decide) (by omega) ?_ | refine LJr_I (h := 5) (by decide) (by omega) ?_ | refine LJr_I (h := 7) (by decide) (by omega) ?_ | refine LJr_I (h := 20) (by decide) (by omega) ?_ | refine LJr_I (h := 64) (by decide) (by omega) ?_ | refine LJr_c (by assumption) ?_)), ⟨by omega, (by repeat (first | assumption | refine MI_I (by decide) ?_ | refine MI_J ?_ | refine MI_sm (by assumption) (by decide) ?_ | refine MI_sn (by assumption) (by decide) ?_)), fun _ => ⟨hPI, hadv, hgX⟩, fun q => by omega⟩⟩
            · skip
              refine zs_iload_n (pc := 152) C dX9_leafRead_152 rfl ?_
              refine zs_goto (tgt := 160) (pc := 153) C dX9_leafRead_153 (by decide) ?_
              refine zs_iconst (pc := 160) C dX9_leafRead_160 (by decide) ?_
              refine zVv3 (pc := 161) C dX9_leafRead_161 v_X9_324 (c_X9_grownY hX (by repeat (first | assumption | refine MI_I (by decide) ?_ | refine MI_J ?_ | refine MI_sm (by assumption) (by decide) ?_ | refine MI_sn (by assumption) (by decide) ?_)) (by first | omega | (simp only [zuI_1, zuI_2, zuJ_1, zuJ_2, zuJ_3, zuP_1, zuP_2, zuP_3, zuC_1, zuC_2, reduceIte, Nat.reduceEqDiff, false_and, and_false, true_and, and_true, and_self, or_true, true_or, or_false, false_or]; omega)) (by first | omega | (simp only [zuI_1, zuI_2, zuJ_1, zuJ_2, zuJ_3, zuP_1, zuP_2, zuP_3, zuC_1, zuC_2, reduceIte, Nat.reduceEqDiff, false_and, and_false, true_and, and_true, and_self, or_true, true_or, or_false, false_or]; omega)) (by first | omega | (simp only [zuI_1, zuI_2, zuJ_1, zuJ_2, zuJ_3, zuP_1, zuP_2, zuP_3, zuC_1, zuC_2, reduceIte, Nat.reduceEqDiff, false_and, and_false, true_and, and_true, and_self, or_true, true_or, or_false, false_or]; omega)) ⟨fun q => by omega, fun q => by omega, fun q => by omega⟩ (by first | omega | (simp only [zuI_1, zuI_2, zuJ_1, zuJ_2, zuJ_3, zuP_1, zuP_2, zuP_3, zuC_1, zuC_2, reduceIte, Nat.reduceEqDiff, false_and, and_false, true_and, and_true, and_self, or_true, true_or, or_false, false_or]; omega))) (by decide) (by decide) ⟨Nat.zero_le _, Nat.zero_le _⟩ (Nat.le_of_ble_eq_true rfl) (fun G161 hp161 => ?_)
              obtain ⟨hz161, lo161, hq161⟩ := hp161
              have tr161_1042 := zsm_at hz161 1042 w 0 (by decide)
              try simp only [zuI_1, zuI_2, zuJ_1, zuJ_2, zuJ_3, zuP_1, zuP_2, zuP_3, zuC_1, zuC_2, reduceIte, Nat.reduceEqDiff, false_and, and_false, true_and, and_true, and_self, or_true, true_or, or_false, false_or] at tr161_1042
              have tr161_1044 := zsm_at hz161 1044 w 0 (by decide)
              try simp only [zuI_1, zuI_2, zuJ_1, zuJ_2, zuJ_3, zuP_1, zuP_2, zuP_3, zuC_1, zuC_2, reduceIte, Nat.reduceEqDiff, false_and, and_false, true_and, and_true, and_self, or_true, true_or, or_false, false_or] at tr161_1044
              have tr161_1045 := zsm_at hz161 1045 w 0 (by decide)
              try simp only [zuI_1, zuI_2, zuJ_1, zuJ_2, zuJ_3, zuP_1, zuP_2, zuP_3, zuC_1, zuC_2, reduceIte, Nat.reduceEqDiff, false_and, and_false, true_and, and_true, and_self, or_true, true_or, or_false, false_or] at tr161_1045
              have tr161_1046 := zsm_at hz161 1046 w 0 (by decide)
              try simp only [zuI_1, zuI_2, zuJ_1, zuJ_2, zuJ_3, zuP_1, zuP_2, zuP_3, zuC_1, zuC_2, reduceIte, Nat.reduceEqDiff, false_and, and_false, true_and, and_true, and_self, or_true, true_or, or_false, false_or] at tr161_1046
              have tr161_1007 := zsm_at hz161 1007 w 0 (by decide)
              try simp only [zuI_1, zuI_2, zuJ_1, zuJ_2, zuJ_3, zuP_1, zuP_2, zuP_3, zuC_1, zuC_2, reduceIte, Nat.reduceEqDiff, false_and, and_false, true_and, and_true, and_self, or_true, true_or, or_false, false_or] at tr161_1007
              have tr161_1010 := zsm_at hz161 1010 w 0 (by decide)
              try simp only [zuI_1, zuI_2, zuJ_1, zuJ_2, zuJ_3, zuP_1, zuP_2, zuP_3, zuC_1, zuC_2, reduceIte, Nat.reduceEqDiff, false_and, and_false, true_and, and_true, and_self, or_true, true_or, or_false, false_or] at tr161_1010
              have tr161_1006 := zsm_at hz161 1006 w 0 (by decide)
              try simp only [zuI_1, zuI_2, zuJ_1, zuJ_2, zuJ_3, zuP_1, zuP_2, zuP_3, zuC_1, zuC_2, reduceIte, Nat.reduceEqDiff, false_and, and_false, true_and, and_true, and_self, or_true, true_or, or_false, false_or] at tr161_1006
              have tr161_1008 := zsm_at hz161 1008 w 0 (by decide)
              try simp only [zuI_1, zuI_2, zuJ_1, zuJ_2, zuJ_3, zuP_1, zuP_2, zuP_3, zuC_1, zuC_2, reduceIte, Nat.reduceEqDiff, false_and, and_false, true_and, and_true, and_self, or_true, true_or, or_false, false_or] at tr161_1008
              have tr161_1009 := zsm_at hz161 1009 w 0 (by decide)
              try simp only [zuI_1, zuI_2, zuJ_1, zuJ_2, zuJ_3, zuP_1, zuP_2, zuP_3, zuC_1, zuC_2, reduceIte, Nat.reduceEqDiff, false_and, and_false, true_and, and_true, and_self, or_true, true_or, or_false, false_or] at tr161_1009
              have hMI := hq161.1
              refine zs_aload_n (pc := 164) C dX9_leafRead_164 rfl ?_
              refine zs_iconst (pc := 165) C dX9_leafRead_165 (by decide) ?_
              refine zs_putz (r := 1046) (pc := 166) C dX9_leafRead_166 w_X9_345 f_10_46 rfl (r_1046 0) (by omega) (by omega) ?_
              refine zs_aload_n (pc := 169) C dX9_leafRead_169 rfl ?_
              refine zVv0 (pc := 170) C dX9_leafRead_170 v_X9_230 (c_X9_tokenGY hX (by repeat (first | assumption | decide | apply gT_I | apply gT_sm))) (by decide) (by decide) ⟨Nat.zero_le _, Nat.zero_le _⟩ (Nat.le_of_ble_eq_true rfl) (fun G170 hp170 => ?_)
              obtain ⟨hz170, lo170, hq170⟩ := hp170
              try simp only [zuI_1, zuI_2, zuJ_1, zuJ_2, zuJ_3, zuP_1, zuP_2, zuP_3, zuC_1, zuC_2, reduceIte, Nat.reduceEqDiff, false_and, and_false, true_and, and_true, and_self, or_true, true_or, or_false, false_or] at hq170
              have tr170_1042 := zsm_at hz170 1042 w 0 (by decide)
              try simp only [zuI_1, zuI_2, zuJ_1, zuJ_2, zuJ_3, zuP_1, zuP_2, zuP_3, zuC_1, zuC_2, reduceIte, Nat.reduceEqDiff, false_and, and_false, true_and, and_true, and_self, or_true, true_or, or_false, false_or] at tr170_1042
              have tr170_1043 := zsm_at hz170 1043 w 0 (by decide)
              try simp only [zuI_1, zuI_2, zuJ_1, zuJ_2, zuJ_3, zuP_1, zuP_2, zuP_3, zuC_1, zuC_2, reduceIte, Nat.reduceEqDiff, false_and, and_false, true_and, and_true, and_self, or_true, true_or, or_false, false_or] at tr170_1043
              have tr170_1044 := zsm_at hz170 1044 w 0 (by decide)
              try simp only [zuI_1, zuI_2, zuJ_1, zuJ_2, zuJ_3, zuP_1, zuP_2, zuP_3, zuC_1, zuC_2, reduceIte, Nat.reduceEqDiff, false_and, and_false, true_and, and_true, and_self, or_true, true_or, or_false, false_or] at tr170_1044
              have tr170_1045 := zsm_at hz170 1045 w 0 (by decide)
              try simp only [zuI_1, zuI_2, zuJ_1, zuJ_2, zuJ_3, zuP_1, zuP_2, zuP_3, zuC_1, zuC_2, reduceIte, Nat.reduceEqDiff, false_and, and_false, true_and, and_true, and_self, or_true, true_or, or_false, false_or] at tr170_1045
              have tr170_1046 := zsm_at hz170 1046 w 0 (by decide)
              try simp only [zuI_1, zuI_2, zuJ_1, zuJ_2, zuJ_3, zuP_1, zuP_2, zuP_3, zuC_1, zuC_2, reduceIte, Nat.reduceEqDiff, false_and, and_false, true_and, and_true, and_self, or_true, true_or, or_false, false_or] at tr170_1046
              have tr170_1021 := zsm_at hz170 1021 w 0 (by decide)
              try simp only [zuI_1, zuI_2, zuJ_1, zuJ_2, zuJ_3, zuP_1, zuP_2, zuP_3, zuC_1, zuC_2, reduceIte, Nat.reduceEqDiff, false_and, and_false, true_and, and_true, and_self, or_true, true_or, or_false, false_or] at tr170_1021
              have tr170_1006 := zsm_at hz170 1006 w 0 (by decide)
              try simp only [zuI_1, zuI_2, zuJ_1, zuJ_2, zuJ_3, zuP_1, zuP_2, zuP_3, zuC_1, zuC_2, reduceIte, Nat.reduceEqDiff, false_and, and_false, true_and, and_true, and_self, or_true, true_or, or_false, false_or] at tr170_1006
              have e77 : G170.1 2077 = G.1 2077 := by rw [hz170.1 2077 (by decide), zuI_ne (show (2077 : Nat) ≠ 1046 by decide), hz161.1 2077 (by decide), hz130.1 2077 (by decide)]
              have e42 : G170.1 1042 w 0 = G.1 1042 w 0 := by omega
              have hPI : PI Γ w G170 := by
                unfold PI
                rw [e77, e42]
                exact ⟨by omega, by omega, by omega, fun q => by omega⟩
              have z20 : 0 ≤ A 20 0 ∧ A 20 0 < 64 ∧ 0 ≤ A 29 0 ∧ A 21 0 < 64 := by omega
              have w161 := hq161.2.1
              have v161 := hq161.2.2.1
              obtain ⟨g1, g2, g3, g4⟩ := hq161.2.2.2
              clear hq161 p1 p2 p3 p4 k3 k0 e77 e42
              have m77 : G170.1 2077 = G.1 2077 := by rw [hz170.1 2077 (by decide), zuI_nf (by decide), hz161.1 2077 (by decide), hz130.1 2077 (by decide)]
              have t1004 := zsm_at hz170 1004 w 0 (by decide)
              have t1005 := zsm_at hz170 1005 w 0 (by decide)
              have t1047 := zsm_at hz170 1047 w 0 (by decide)
              have u1004 := zsm_at hz161 1004 w 0 (by decide)
              have u1005 := zsm_at hz161 1005 w 0 (by decide)
              have u1047 := zsm_at hz161 1047 w 0 (by decide)
              have v1047 := zsm_at hz130 1047 w 0 (by decide)
              try simp only [zuI_1, zuI_2, zuJ_1, zuJ_2, zuJ_3, zuP_1, zuP_2, zuP_3, zuC_1, zuC_2, reduceIte, Nat.reduceEqDiff, false_and, and_false, true_and, and_true, and_self, or_true, true_or, or_false, false_or] at t1004 t1005 t1047
              have hgX : gX b n Γ w (sSide b n A) G170 := by
                first
                | (exfalso; omega)
                | (have hS2 := (hlf.1 (by omega)).2.trans (sLeaf_ok h0 (by omega) (by omega))
                   exact gX_leaf (k := 1) (q := x1) (by omega) (by omega) h0 hq170 hK hE hS2 (by omega) (by omega) (by omega) (by omega) (by omega) (by omega) (by omega) (by omega) (by omega) m77
                    (fun j => by rw [hz170.1 2078 (by decide), zuI_nf (by decide), g4 j, hz130.1 2078 (by decide), show (G130.1 1043 w 0).toNat = (A 29 0).toNat by omega, show G130.1 1021 w 0 = A 20 0 by omega])
                    (fun j => by rw [hz170.1 2074 (by decide), zuI_nf (by decide), g1 j, hz130.1 2074 (by decide), show (64 + G130.1 1021 w 0).toNat = (64 + A 20 0).toNat by omega, show rk 1 = 1 from rfl])
                    (fun j => by rw [hz170.1 2075 (by decide), zuI_nf (by decide), g2 j, hz130.1 2075 (by decide), show (64 + G130.1 1021 w 0).toNat = (64 + A 20 0).toNat by omega])
                    (fun j => by rw [hz170.1 2076 (by decide), zuI_nf (by decide), g3 j, hz130.1 2076 (by decide), show (64 + G130.1 1021 w 0).toNat = (64 + A 20 0).toNat by omega]))
                | (have hS2 := (hlf.2.1 (by omega)).2.2.trans (sLeaf_ok h0 (by omega) (by omega))
                   exact gX_leaf (k := 0) (q := G.1 1009 w 0) (by omega) (by omega) h0 hq170 hK hE hS2 (by omega) (by omega) (by omega) (by omega) (by omega) (by omega) (by omega) (by omega) (by omega) m77
                    (fun j => by rw [hz170.1 2078 (by decide), zuI_nf (by decide), g4 j, hz130.1 2078 (by decide), show (G130.1 1043 w 0).toNat = (A 29 0).toNat by omega, show G130.1 1021 w 0 = A 20 0 by omega])
                    (fun j => by rw [hz170.1 2074 (by decide), zuI_nf (by decide), g1 j, hz130.1 2074 (by decide), show (64 + G130.1 1021 w 0).toNat = (64 + A 20 0).toNat by omega, show rk 0 = 0 from rfl])
                    (fun j => by rw [hz170.1 2075 (by decide), zuI_nf (by decide), g2 j, hz130.1 2075 (by decide), show (64 + G130.1 1021 w 0).toNat = (64 + A 20 0).toNat by omega, show v157 = G.1 1009 w 0 by omega])
                    (fun j => by rw [hz170.1 2076 (by decide), zuI_nf (by decide), g3 j, hz130.1 2076 (by decide), show (64 + G130.1 1021 w 0).toNat = (64 + A 20 0).toNat by omega]))
              have hadv := gT_adv hG hq170 hlf.2.2
              refine zs_iconst (pc := 173) C dX9_leafRead_173 (by decide) ?_
              exact zs_zret (pc := 174) C hr hlk dX9_leafRead_174 (by omega) ⟨by repeat (first | exact zsm_rf | assumption | refine zsm_C (by decide) ?_ | refine zsm_I (by decide) ?_ | refine zsm_J ?_ | refine zsm_c (by assumption) (by decide) ?_), (by with_reducible repeat (first | exact LJr_rf | assumption | refine LJr_I (h := 0) (by decide) (Nat.zero_le _) ?_ | refine LJr_I (h := 3) (by decide) (by omega) ?_ | refine LJr_I (h := 4) (by decide) (by omega) ?_ | refine LJr_I (h := 5) (by decide) (by omega) ?_ | refine LJr_I (h := 7) (by decide) (by omega) ?_ | refine LJr_I (h := 20) (by decide) (by omega) ?_ | refine LJr_I (h := 64) (by decide) (by omega) ?_ | refine LJr_c (by assumption) ?_)), ⟨by omega, (by repeat (first | assumption | refine MI_I (by decide) ?_ | refine MI_J ?_ | refine MI_sm (by assumption) (by decide) ?_ | refine MI_sn (by assumption) (by decide) ?_)), fun _ => ⟨hPI, hadv, hgX⟩, fun q => by omega⟩⟩
        · skip
          refine zs_iconst (pc := 136) C dX9_leafRead_136 (by decide) ?_
          exact zs_zret (pc := 137) C hr hlk dX9_leafRead_137 (by omega) ⟨by repeat (first | exact zsm_rf | assumption | refine zsm_C (by decide) ?_ | refine zsm_I (by decide) ?_ | refine zsm_J ?_ | refine zsm_c (by assumption) (by decide) ?_), (by with_reducible repeat (first | exact LJr_rf | assumption | refine LJr_I (h := 0) (by decide) (Nat.zero_le _) ?_ | refine LJr_I (h := 3) (by decide) (by omega) ?_ | refine LJr_I (h := 4) (by decide) (by omega) ?_ | refine LJr_I (h := 5) (by decide) (by omega) ?_ | refine LJr_I (h := 7) (by decide) (by omega) ?_ | refine LJr_I (h := 20) (by decide) (by omega) ?_ | refine LJr_I (h := 64) (by decide) (by omega) ?_ | refine LJr_c (by assumption) ?_)), ⟨by omega, (by repeat (first | assumption | refine MI_I (by decide) ?_ | refine MI_J ?_ | refine MI_sm (by assumption) (by decide) ?_ | refine MI_sn (by assumption) (by decide) ?_)), fun q => by omega, fun _ => (by have hc9 := hq130.2.2 (by omega); rcases Int.lt_or_le x1 0 with q | q; (rw [(hlf.2.1 q).2.2, sLeaf_64 (by omega)]; exact FT_fail h0 (by decide) hc9.2.2.1 (hc9.2.2.2.trans g10)); (rw [(hlf.1 q).2, sLeaf_64 (by omega)]; exact FT_fail h0 (by decide) hc9.2.2.1 (hc9.2.2.2.trans g10)))⟩⟩
      refine zs_iload_n (pc := 91) C dX9_leafRead_91 rfl ?_
      refine zs_if_ge (tgt := 109) (pc := 92) C dX9_leafRead_92 (by decide) (fun h92 => ?_) (fun h92 => ?_)
      · skip
        have r100 : 0 ≤ x87 := h92
        refine zs_iload_n (pc := 109) C dX9_leafRead_109 rfl ?_
        refine zs_if_ge (tgt := 129) (pc := 110) C dX9_leafRead_110 (by decide) (fun h110 => ?_) (fun h110 => ?_)
        · skip
          exact zs_wk (J129 _ (by first | (refine Or.inr ⟨by omega, r100, ?_, ?_⟩ <;> omega) | (rcases z87 with q | q; exact absurd q.1 (by omega); exact Or.inl q))) (zwk_s rfl (zwk_s rfl zwk_0))
        · skip
          refine zs_aload_n (pc := 113) C dX9_leafRead_113 rfl ?_
          refine zs_geti (r := 1009) (pc := 114) C dX9_leafRead_114 w_X9_207 f_10_9 rfl (r_1009 0) (fun v114 e114 l114 u114 => ?_)
          refine zs_sipush (pc := 117) C dX9_leafRead_117 (by decide) (by decide) ?_
          refine zs_icmp_le (tgt := 129) (pc := 120) C dX9_leafRead_120 (by decide) (fun h120 => ?_) (fun h120 => ?_)
          · skip
            exact zs_wk (J129 _ (by first | (refine Or.inr ⟨by omega, r100, ?_, ?_⟩ <;> omega) | (rcases z87 with q | q; exact absurd q.1 (by omega); exact Or.inl q))) (zwk_s rfl (zwk_s rfl zwk_0))
          · skip
            refine zs_aload_n (pc := 123) C dX9_leafRead_123 rfl ?_
            refine zs_iconst (pc := 124) C dX9_leafRead_124 (by decide) ?_
            refine zVi1 (pc := 125) C dX9_leafRead_125 v_X9_220 (c_X9_wrongY hX ) (by decide) (by decide) ⟨Nat.zero_le _, Nat.zero_le _⟩ (Nat.le_of_ble_eq_true rfl) (fun x125 G125 l125 u125 hp125 => ?_)
            obtain ⟨hz125, lo125, hq125⟩ := hp125
            have tr125_1042 := zsm_at hz125 1042 w 0 (by decide)
            try simp only [zuI_1, zuI_2, zuJ_1, zuJ_2, zuJ_3, zuP_1, zuP_2, zuP_3, zuC_1, zuC_2, reduceIte, Nat.reduceEqDiff, false_and, and_false, true_and, and_true, and_self, or_true, true_or, or_false, false_or] at tr125_1042
            have tr125_1043 := zsm_at hz125 1043 w 0 (by decide)
            try simp only [zuI_1, zuI_2, zuJ_1, zuJ_2, zuJ_3, zuP_1, zuP_2, zuP_3, zuC_1, zuC_2, reduceIte, Nat.reduceEqDiff, false_and, and_false, true_and, and_true, and_self, or_true, true_or, or_false, false_or] at tr125_1043
            have tr125_1044 := zsm_at hz125 1044 w 0 (by decide)
            try simp only [zuI_1, zuI_2, zuJ_1, zuJ_2, zuJ_3, zuP_1, zuP_2, zuP_3, zuC_1, zuC_2, reduceIte, Nat.reduceEqDiff, false_and, and_false, true_and, and_true, and_self, or_true, true_or, or_false, false_or] at tr125_1044
            have tr125_1045 := zsm_at hz125 1045 w 0 (by decide)
            try simp only [zuI_1, zuI_2, zuJ_1, zuJ_2, zuJ_3, zuP_1, zuP_2, zuP_3, zuC_1, zuC_2, reduceIte, Nat.reduceEqDiff, false_and, and_false, true_and, and_true, and_self, or_true, true_or, or_false, false_or] at tr125_1045
            have tr125_1046 := zsm_at hz125 1046 w 0 (by decide)
            try simp only [zuI_1, zuI_2, zuJ_1, zuJ_2, zuJ_3, zuP_1, zuP_2, zuP_3, zuC_1, zuC_2, reduceIte, Nat.reduceEqDiff, false_and, and_false, true_and, and_true, and_self, or_true, true_or, or_false, false_or] at tr125_1046
            have tr125_1021 := zsm_at hz125 1021 w 0 (by decide)
            try simp only [zuI_1, zuI_2, zuJ_1, zuJ_2, zuJ_3, zuP_1, zuP_2, zuP_3, zuC_1, zuC_2, reduceIte, Nat.reduceEqDiff, false_and, and_false, true_and, and_true, and_self, or_true, true_or, or_false, false_or] at tr125_1021
            have tr125_1007 := zsm_at hz125 1007 w 0 (by decide)
            try simp only [zuI_1, zuI_2, zuJ_1, zuJ_2, zuJ_3, zuP_1, zuP_2, zuP_3, zuC_1, zuC_2, reduceIte, Nat.reduceEqDiff, false_and, and_false, true_and, and_true, and_self, or_true, true_or, or_false, false_or] at tr125_1007
            have tr125_1010 := zsm_at hz125 1010 w 0 (by decide)
            try simp only [zuI_1, zuI_2, zuJ_1, zuJ_2, zuJ_3, zuP_1, zuP_2, zuP_3, zuC_1, zuC_2, reduceIte, Nat.reduceEqDiff, false_and, and_false, true_and, and_true, and_self, or_true, true_or, or_false, false_or] at tr125_1010
            have tr125_1006 := zsm_at hz125 1006 w 0 (by decide)
            try simp only [zuI_1, zuI_2, zuJ_1, zuJ_2, zuJ_3, zuP_1, zuP_2, zuP_3, zuC_1, zuC_2, reduceIte, Nat.reduceEqDiff, false_and, and_false, true_and, and_true, and_self, or_true, true_or, or_false, false_or] at tr125_1006
            have tr125_1008 := zsm_at hz125 1008 w 0 (by decide)
            try simp only [zuI_1, zuI_2, zuJ_1, zuJ_2, zuJ_3, zuP_1, zuP_2, zuP_3, zuC_1, zuC_2, reduceIte, Nat.reduceEqDiff, false_and, and_false, true_and, and_true, and_self, or_true, true_or, or_false, false_or] at tr125_1008
            have tr125_1009 := zsm_at hz125 1009 w 0 (by decide)
            try simp only [zuI_1, zuI_2, zuJ_1, zuJ_2, zuJ_3, zuP_1, zuP_2, zuP_3, zuC_1, zuC_2, reduceIte, Nat.reduceEqDiff, false_and, and_false, true_and, and_true, and_self, or_true, true_or, or_false, false_or] at tr125_1009
            exact zs_zret (pc := 128) C hr hlk dX9_leafRead_128 (by omega) ⟨by repeat (first | exact zsm_rf | assumption | refine zsm_C (by decide) ?_ | refine zsm_I (by decide) ?_ | refine zsm_J ?_ | refine zsm_c (by assumption) (by decide) ?_), (by with_reducible repeat (first | exact LJr_rf | assumption | refine LJr_I (h := 0) (by decide) (Nat.zero_le _) ?_ | refine LJr_I (h := 3) (by decide) (by omega) ?_ | refine LJr_I (h := 4) (by decide) (by omega) ?_ | refine LJr_I (h := 5) (by decide) (by omega) ?_ | refine LJr_I (h := 7) (by decide) (by omega) ?_ | refine LJr_I (h := 20) (by decide) (by omega) ?_ | refine LJr_I (h := 64) (by decide) (by omega) ?_ | refine LJr_c (by assumption) ?_)), ⟨by omega, (by repeat (first | assumption | refine MI_I (by decide) ?_ | refine MI_J ?_ | refine MI_sm (by assumption) (by decide) ?_ | refine MI_sn (by assumption) (by decide) ?_)), fun q => by omega, fun _ => by first | (exfalso; omega) | (rw [sSide_big r100 (by omega)]; exact FT_fail h0 (by decide) hq125.2.1 (hq125.2.2.trans g10))⟩⟩
      · skip
        refine zs_aload_n (pc := 95) C dX9_leafRead_95 rfl ?_
        refine zs_geti (r := 1008) (pc := 96) C dX9_leafRead_96 w_X9_196 f_10_8 rfl (r_1008 0) (fun v96 e96 l96 u96 => ?_)
        refine zs_iconst (pc := 99) C dX9_leafRead_99 (by decide) ?_
        refine zs_icmp_eq (tgt := 109) (pc := 100) C dX9_leafRead_100 (by decide) (fun h100 => ?_) (fun h100 => ?_)
        · skip
          have r100 : tK b n A = 3 := (gT_num hG).1.mp (by omega)
          have r101 := (gT_num hG).2 r100
          refine zs_iload_n (pc := 109) C dX9_leafRead_109 rfl ?_
          refine zs_if_ge (tgt := 129) (pc := 110) C dX9_leafRead_110 (by decide) (fun h110 => ?_) (fun h110 => ?_)
          · skip
            exact zs_wk (J129 _ (by first | (refine Or.inr ⟨by omega, r100, ?_, ?_⟩ <;> omega) | (rcases z87 with q | q; exact absurd q.1 (by omega); exact Or.inl q))) (zwk_s rfl (zwk_s rfl zwk_0))
          · skip
            refine zs_aload_n (pc := 113) C dX9_leafRead_113 rfl ?_
            refine zs_geti (r := 1009) (pc := 114) C dX9_leafRead_114 w_X9_207 f_10_9 rfl (r_1009 0) (fun v114 e114 l114 u114 => ?_)
            refine zs_sipush (pc := 117) C dX9_leafRead_117 (by decide) (by decide) ?_
            refine zs_icmp_le (tgt := 129) (pc := 120) C dX9_leafRead_120 (by decide) (fun h120 => ?_) (fun h120 => ?_)
            · skip
              exact zs_wk (J129 _ (by first | (refine Or.inr ⟨by omega, r100, ?_, ?_⟩ <;> omega) | (rcases z87 with q | q; exact absurd q.1 (by omega); exact Or.inl q))) (zwk_s rfl (zwk_s rfl zwk_0))
            · skip
              refine zs_aload_n (pc := 123) C dX9_leafRead_123 rfl ?_
              refine zs_iconst (pc := 124) C dX9_leafRead_124 (by decide) ?_
              refine zVi1 (pc := 125) C dX9_leafRead_125 v_X9_220 (c_X9_wrongY hX ) (by decide) (by decide) ⟨Nat.zero_le _, Nat.zero_le _⟩ (Nat.le_of_ble_eq_true rfl) (fun x125 G125 l125 u125 hp125 => ?_)
              obtain ⟨hz125, lo125, hq125⟩ := hp125
              have tr125_1042 := zsm_at hz125 1042 w 0 (by decide)
              try simp only [zuI_1, zuI_2, zuJ_1, zuJ_2, zuJ_3, zuP_1, zuP_2, zuP_3, zuC_1, zuC_2, reduceIte, Nat.reduceEqDiff, false_and, and_false, true_and, and_true, and_self, or_true, true_or, or_false, false_or] at tr125_1042
              have tr125_1043 := zsm_at hz125 1043 w 0 (by decide)
              try simp only [zuI_1, zuI_2, zuJ_1, zuJ_2, zuJ_3, zuP_1, zuP_2, zuP_3, zuC_1, zuC_2, reduceIte, Nat.reduceEqDiff, false_and, and_false, true_and, and_true, and_self, or_true, true_or, or_false, false_or] at tr125_1043
              have tr125_1044 := zsm_at hz125 1044 w 0 (by decide)
              try simp only [zuI_1, zuI_2, zuJ_1, zuJ_2, zuJ_3, zuP_1, zuP_2, zuP_3, zuC_1, zuC_2, reduceIte, Nat.reduceEqDiff, false_and, and_false, true_and, and_true, and_self, or_true, true_or, or_false, false_or] at tr125_1044
              have tr125_1045 := zsm_at hz125 1045 w 0 (by decide)
              try simp only [zuI_1, zuI_2, zuJ_1, zuJ_2, zuJ_3, zuP_1, zuP_2, zuP_3, zuC_1, zuC_2, reduceIte, Nat.reduceEqDiff, false_and, and_false, true_and, and_true, and_self, or_true, true_or, or_false, false_or] at tr125_1045
              have tr125_1046 := zsm_at hz125 1046 w 0 (by decide)
              try simp only [zuI_1, zuI_2, zuJ_1, zuJ_2, zuJ_3, zuP_1, zuP_2, zuP_3, zuC_1, zuC_2, reduceIte, Nat.reduceEqDiff, false_and, and_false, true_and, and_true, and_self, or_true, true_or, or_false, false_or] at tr125_1046
              have tr125_1021 := zsm_at hz125 1021 w 0 (by decide)
              try simp only [zuI_1, zuI_2, zuJ_1, zuJ_2, zuJ_3, zuP_1, zuP_2, zuP_3, zuC_1, zuC_2, reduceIte, Nat.reduceEqDiff, false_and, and_false, true_and, and_true, and_self, or_true, true_or, or_false, false_or] at tr125_1021
              have tr125_1007 := zsm_at hz125 1007 w 0 (by decide)
              try simp only [zuI_1, zuI_2, zuJ_1, zuJ_2, zuJ_3, zuP_1, zuP_2, zuP_3, zuC_1, zuC_2, reduceIte, Nat.reduceEqDiff, false_and, and_false, true_and, and_true, and_self, or_true, true_or, or_false, false_or] at tr125_1007
              have tr125_1010 := zsm_at hz125 1010 w 0 (by decide)
              try simp only [zuI_1, zuI_2, zuJ_1, zuJ_2, zuJ_3, zuP_1, zuP_2, zuP_3, zuC_1, zuC_2, reduceIte, Nat.reduceEqDiff, false_and, and_false, true_and, and_true, and_self, or_true, true_or, or_false, false_or] at tr125_1010
              have tr125_1006 := zsm_at hz125 1006 w 0 (by decide)
              try simp only [zuI_1, zuI_2, zuJ_1, zuJ_2, zuJ_3, zuP_1, zuP_2, zuP_3, zuC_1, zuC_2, reduceIte, Nat.reduceEqDiff, false_and, and_false, true_and, and_true, and_self, or_true, true_or, or_false, false_or] at tr125_1006
              have tr125_1008 := zsm_at hz125 1008 w 0 (by decide)
              try simp only [zuI_1, zuI_2, zuJ_1, zuJ_2, zuJ_3, zuP_1, zuP_2, zuP_3, zuC_1, zuC_2, reduceIte, Nat.reduceEqDiff, false_and, and_false, true_and, and_true, and_self, or_true, true_or, or_false, false_or] at tr125_1008
              have tr125_1009 := zsm_at hz125 1009 w 0 (by decide)
              try simp only [zuI_1, zuI_2, zuJ_1, zuJ_2, zuJ_3, zuP_1, zuP_2, zuP_3, zuC_1, zuC_2, reduceIte, Nat.reduceEqDiff, false_and, and_false, true_and, and_true, and_self, or_true, true_or, or_false, false_or] at tr125_1009
              exact zs_zret (pc := 128) C hr hlk dX9_leafRead_128 (by omega) ⟨by repeat (first | exact zsm_rf | assumption | refine zsm_C (by decide) ?_ | refine zsm_I (by decide) ?_ | refine zsm_J ?_ | refine zsm_c (by assumption) (by decide) ?_), (by with_reducible repeat (first | exact LJr_rf | assumption | refine LJr_I (h := 0) (by decide) (Nat.zero_le _) ?_ | refine LJr_I (h := 3) (by decide) (by omega) ?_ | refine LJr_I (h := 4) (by decide) (by omega) ?_ | refine LJr_I (h := 5) (by decide) (by omega) ?_ | refine LJr_I (h := 7) (by decide) (by omega) ?_ | refine LJr_I (h := 20) (by decide) (by omega) ?_ | refine LJr_I (h := 64) (by decide) (by omega) ?_ | refine LJr_c (by assumption) ?_)), ⟨by omega, (by repeat (first | assumption | refine MI_I (by decide) ?_ | refine MI_J ?_ | refine MI_sm (by assumption) (by decide) ?_ | refine MI_sn (by assumption) (by decide) ?_)), fun q => by omega, fun _ => by first | (exfalso; omega) | (rw [sSide_big r100 (by omega)]; exact FT_fail h0 (by decide) hq125.2.1 (hq125.2.2.trans g10))⟩⟩
        · skip
          have r100 : tK b n A ≠ 3 := fun q => (by have q2 := (gT_num hG).1.mpr q; omega)
          refine zs_aload_n (pc := 103) C dX9_leafRead_103 rfl ?_
          refine zs_iconst (pc := 104) C dX9_leafRead_104 (by decide) ?_
          refine zVi1 (pc := 105) C dX9_leafRead_105 v_X9_220 (c_X9_wrongY hX ) (by decide) (by decide) ⟨Nat.zero_le _, Nat.zero_le _⟩ (Nat.le_of_ble_eq_true rfl) (fun x105 G105 l105 u105 hp105 => ?_)
          obtain ⟨hz105, lo105, hq105⟩ := hp105
          have tr105_1042 := zsm_at hz105 1042 w 0 (by decide)
          try simp only [zuI_1, zuI_2, zuJ_1, zuJ_2, zuJ_3, zuP_1, zuP_2, zuP_3, zuC_1, zuC_2, reduceIte, Nat.reduceEqDiff, false_and, and_false, true_and, and_true, and_self, or_true, true_or, or_false, false_or] at tr105_1042
          have tr105_1043 := zsm_at hz105 1043 w 0 (by decide)
          try simp only [zuI_1, zuI_2, zuJ_1, zuJ_2, zuJ_3, zuP_1, zuP_2, zuP_3, zuC_1, zuC_2, reduceIte, Nat.reduceEqDiff, false_and, and_false, true_and, and_true, and_self, or_true, true_or, or_false, false_or] at tr105_1043
          have tr105_1044 := zsm_at hz105 1044 w 0 (by decide)
          try simp only [zuI_1, zuI_2, zuJ_1, zuJ_2, zuJ_3, zuP_1, zuP_2, zuP_3, zuC_1, zuC_2, reduceIte, Nat.reduceEqDiff, false_and, and_false, true_and, and_true, and_self, or_true, true_or, or_false, false_or] at tr105_1044
          have tr105_1045 := zsm_at hz105 1045 w 0 (by decide)
          try simp only [zuI_1, zuI_2, zuJ_1, zuJ_2, zuJ_3, zuP_1, zuP_2, zuP_3, zuC_1, zuC_2, reduceIte, Nat.reduceEqDiff, false_and, and_false, true_and, and_true, and_self, or_true, true_or, or_false, false_or] at tr105_1045
          have tr105_1046 := zsm_at hz105 1046 w 0 (by decide)
          try simp only [zuI_1, zuI_2, zuJ_1, zuJ_2, zuJ_3, zuP_1, zuP_2, zuP_3, zuC_1, zuC_2, reduceIte, Nat.reduceEqDiff, false_and, and_false, true_and, and_true, and_self, or_true, true_or, or_false, false_or] at tr105_1046
          have tr105_1021 := zsm_at hz105 1021 w 0 (by decide)
          try simp only [zuI_1, zuI_2, zuJ_1, zuJ_2, zuJ_3, zuP_1, zuP_2, zuP_3, zuC_1, zuC_2, reduceIte, Nat.reduceEqDiff, false_and, and_false, true_and, and_true, and_self, or_true, true_or, or_false, false_or] at tr105_1021
          have tr105_1007 := zsm_at hz105 1007 w 0 (by decide)
          try simp only [zuI_1, zuI_2, zuJ_1, zuJ_2, zuJ_3, zuP_1, zuP_2, zuP_3, zuC_1, zuC_2, reduceIte, Nat.reduceEqDiff, false_and, and_false, true_and, and_true, and_self, or_true, true_or, or_false, false_or] at tr105_1007
          have tr105_1010 := zsm_at hz105 1010 w 0 (by decide)
          try simp only [zuI_1, zuI_2, zuJ_1, zuJ_2, zuJ_3, zuP_1, zuP_2, zuP_3, zuC_1, zuC_2, reduceIte, Nat.reduceEqDiff, false_and, and_false, true_and, and_true, and_self, or_true, true_or, or_false, false_or] at tr105_1010
          have tr105_1006 := zsm_at hz105 1006 w 0 (by decide)
          try simp only [zuI_1, zuI_2, zuJ_1, zuJ_2, zuJ_3, zuP_1, zuP_2, zuP_3, zuC_1, zuC_2, reduceIte, Nat.reduceEqDiff, false_and, and_false, true_and, and_true, and_self, or_true, true_or, or_false, false_or] at tr105_1006
          have tr105_1008 := zsm_at hz105 1008 w 0 (by decide)
          try simp only [zuI_1, zuI_2, zuJ_1, zuJ_2, zuJ_3, zuP_1, zuP_2, zuP_3, zuC_1, zuC_2, reduceIte, Nat.reduceEqDiff, false_and, and_false, true_and, and_true, and_self, or_true, true_or, or_false, false_or] at tr105_1008
          have tr105_1009 := zsm_at hz105 1009 w 0 (by decide)
          try simp only [zuI_1, zuI_2, zuJ_1, zuJ_2, zuJ_3, zuP_1, zuP_2, zuP_3, zuC_1, zuC_2, reduceIte, Nat.reduceEqDiff, false_and, and_false, true_and, and_true, and_self, or_true, true_or, or_false, false_or] at tr105_1009
          exact zs_zret (pc := 108) C hr hlk dX9_leafRead_108 (by omega) ⟨by repeat (first | exact zsm_rf | assumption | refine zsm_C (by decide) ?_ | refine zsm_I (by decide) ?_ | refine zsm_J ?_ | refine zsm_c (by assumption) (by decide) ?_), (by with_reducible repeat (first | exact LJr_rf | assumption | refine LJr_I (h := 0) (by decide) (Nat.zero_le _) ?_ | refine LJr_I (h := 3) (by decide) (by omega) ?_ | refine LJr_I (h := 4) (by decide) (by omega) ?_ | refine LJr_I (h := 5) (by decide) (by omega) ?_ | refine LJr_I (h := 7) (by decide) (by omega) ?_ | refine LJr_I (h := 20) (by decide) (by omega) ?_ | refine LJr_I (h := 64) (by decide) (by omega) ?_ | refine LJr_c (by assumption) ?_)), ⟨by omega, (by repeat (first | assumption | refine MI_I (by decide) ?_ | refine MI_J ?_ | refine MI_sm (by assumption) (by decide) ?_ | refine MI_sn (by assumption) (by decide) ?_)), fun q => by omega, fun _ => by first | (exfalso; omega) | (rw [sSide_no r3 h86_1 r100 (by rcases z87 with q | q; exact q.2; exact absurd q.1 h92)]; exact FT_fail h0 (by decide) hq105.2.1 (hq105.2.2.trans g10))⟩⟩
    refine zs_aload_n (pc := 50) C dX9_leafRead_50 rfl ?_
    refine zs_bipush (pc := 51) C dX9_leafRead_51 (by decide) (by decide) ?_
    refine zVip1 (pc := 53) C dX9_leafRead_53 v_X9_288 (c_X9_isKeyG hX ) (by decide) (by decide) ⟨Nat.zero_le _, Nat.zero_le _⟩ (Nat.le_of_ble_eq_true rfl) (fun x53 l53 u53 hp53 => ?_)
    have hq53 := hp53
    have z53 := hq53.2.trans (gT_kw hG (k := 16) (v := 16) (by omega))
    have y53 := hq53.1
    clear hq53 hp53
    refine zs_if_eq (tgt := 86) (pc := 56) C dX9_leafRead_56 (by decide) (fun h56 => ?_) (fun h56 => ?_)
    · skip
      have r53n : ¬ (tK b n A = 2 ∧ tV b n A = 16) := fun q => (by have q2 := z53.mpr q; omega)
      clear z53
      exact zs_wk (J86 _ rfl (by omega)) (zwk_s rfl (zwk_n zwk_0))
    · skip
      have r53 := z53.mp (by omega)
      clear z53
      refine zs_aload_n (pc := 59) C dX9_leafRead_59 rfl ?_
      refine zs_getz (r := 1047) (pc := 60) C dX9_leafRead_60 w_X9_335 f_10_47 rfl (r_1047 0) (fun v60 e60 l60 u60 => ?_)
      refine zs_if_eq (tgt := 86) (pc := 63) C dX9_leafRead_63 (by decide) (fun h63 => ?_) (fun h63 => ?_)
      · skip
        exact zs_wk (J86 _ rfl (by omega)) (zwk_s rfl (zwk_n zwk_0))
      · skip
        refine zs_aload_n (pc := 66) C dX9_leafRead_66 rfl ?_
        refine zVi0 (pc := 67) C dX9_leafRead_67 v_X9_339 (c_X9_isCountedY hX ) (by decide) (by decide) ⟨Nat.zero_le _, Nat.zero_le _⟩ (Nat.le_of_ble_eq_true rfl) (fun x67 G67 l67 u67 hp67 => ?_)
        obtain ⟨hz67, lo67, hq67⟩ := hp67
        have tr67_1042 := zsm_at hz67 1042 w 0 (by decide)
        try simp only [zuI_1, zuI_2, zuJ_1, zuJ_2, zuJ_3, zuP_1, zuP_2, zuP_3, zuC_1, zuC_2, reduceIte, Nat.reduceEqDiff, false_and, and_false, true_and, and_true, and_self, or_true, true_or, or_false, false_or] at tr67_1042
        have tr67_1043 := zsm_at hz67 1043 w 0 (by decide)
        try simp only [zuI_1, zuI_2, zuJ_1, zuJ_2, zuJ_3, zuP_1, zuP_2, zuP_3, zuC_1, zuC_2, reduceIte, Nat.reduceEqDiff, false_and, and_false, true_and, and_true, and_self, or_true, true_or, or_false, false_or] at tr67_1043
        have tr67_1044 := zsm_at hz67 1044 w 0 (by decide)
        try simp only [zuI_1, zuI_2, zuJ_1, zuJ_2, zuJ_3, zuP_1, zuP_2, zuP_3, zuC_1, zuC_2, reduceIte, Nat.reduceEqDiff, false_and, and_false, true_and, and_true, and_self, or_true, true_or, or_false, false_or] at tr67_1044
        have tr67_1046 := zsm_at hz67 1046 w 0 (by decide)
        try simp only [zuI_1, zuI_2, zuJ_1, zuJ_2, zuJ_3, zuP_1, zuP_2, zuP_3, zuC_1, zuC_2, reduceIte, Nat.reduceEqDiff, false_and, and_false, true_and, and_true, and_self, or_true, true_or, or_false, false_or] at tr67_1046
        have tr67_1021 := zsm_at hz67 1021 w 0 (by decide)
        try simp only [zuI_1, zuI_2, zuJ_1, zuJ_2, zuJ_3, zuP_1, zuP_2, zuP_3, zuC_1, zuC_2, reduceIte, Nat.reduceEqDiff, false_and, and_false, true_and, and_true, and_self, or_true, true_or, or_false, false_or] at tr67_1021
        have tr67_1007 := zsm_at hz67 1007 w 0 (by decide)
        try simp only [zuI_1, zuI_2, zuJ_1, zuJ_2, zuJ_3, zuP_1, zuP_2, zuP_3, zuC_1, zuC_2, reduceIte, Nat.reduceEqDiff, false_and, and_false, true_and, and_true, and_self, or_true, true_or, or_false, false_or] at tr67_1007
        have tr67_1010 := zsm_at hz67 1010 w 0 (by decide)
        try simp only [zuI_1, zuI_2, zuJ_1, zuJ_2, zuJ_3, zuP_1, zuP_2, zuP_3, zuC_1, zuC_2, reduceIte, Nat.reduceEqDiff, false_and, and_false, true_and, and_true, and_self, or_true, true_or, or_false, false_or] at tr67_1010
        have tr67_1006 := zsm_at hz67 1006 w 0 (by decide)
        try simp only [zuI_1, zuI_2, zuJ_1, zuJ_2, zuJ_3, zuP_1, zuP_2, zuP_3, zuC_1, zuC_2, reduceIte, Nat.reduceEqDiff, false_and, and_false, true_and, and_true, and_self, or_true, true_or, or_false, false_or] at tr67_1006
        have tr67_1008 := zsm_at hz67 1008 w 0 (by decide)
        try simp only [zuI_1, zuI_2, zuJ_1, zuJ_2, zuJ_3, zuP_1, zuP_2, zuP_3, zuC_1, zuC_2, reduceIte, Nat.reduceEqDiff, false_and, and_false, true_and, and_true, and_self, or_true, true_or, or_false, false_or] at tr67_1008
        have tr67_1009 := zsm_at hz67 1009 w 0 (by decide)
        try simp only [zuI_1, zuI_2, zuJ_1, zuJ_2, zuJ_3, zuP_1, zuP_2, zuP_3, zuC_1, zuC_2, reduceIte, Nat.reduceEqDiff, false_and, and_false, true_and, and_true, and_self, or_true, true_or, or_false, false_or] at tr67_1009
        refine zs_if_ne (tgt := 75) (pc := 70) C dX9_leafRead_70 (by decide) (fun h70 => ?_) (fun h70 => ?_)
        · skip
          have c67a := hq67.2.1 (by omega)
          have hS := sSide_nt r53 (by omega) h0 (by omega) (by omega)
          refine zs_aload_n (pc := 75) C dX9_leafRead_75 rfl ?_
          refine zs_iconst (pc := 76) C dX9_leafRead_76 (by decide) ?_
          refine zVv1 (pc := 77) C dX9_leafRead_77 v_X9_331 (c_X9_waitsForY hX (by omega) (by omega)) (by decide) (by decide) ⟨Nat.zero_le _, Nat.zero_le _⟩ (Nat.le_of_ble_eq_true rfl) (fun G77 hp77 => ?_)
          obtain ⟨hz77, lo77, hq77⟩ := hp77
          have tr77_1043 := zsm_at hz77 1043 w 0 (by decide)
          try simp only [zuI_1, zuI_2, zuJ_1, zuJ_2, zuJ_3, zuP_1, zuP_2, zuP_3, zuC_1, zuC_2, reduceIte, Nat.reduceEqDiff, false_and, and_false, true_and, and_true, and_self, or_true, true_or, or_false, false_or] at tr77_1043
          have tr77_1044 := zsm_at hz77 1044 w 0 (by decide)
          try simp only [zuI_1, zuI_2, zuJ_1, zuJ_2, zuJ_3, zuP_1, zuP_2, zuP_3, zuC_1, zuC_2, reduceIte, Nat.reduceEqDiff, false_and, and_false, true_and, and_true, and_self, or_true, true_or, or_false, false_or] at tr77_1044
          have tr77_1045 := zsm_at hz77 1045 w 0 (by decide)
          try simp only [zuI_1, zuI_2, zuJ_1, zuJ_2, zuJ_3, zuP_1, zuP_2, zuP_3, zuC_1, zuC_2, reduceIte, Nat.reduceEqDiff, false_and, and_false, true_and, and_true, and_self, or_true, true_or, or_false, false_or] at tr77_1045
          have tr77_1046 := zsm_at hz77 1046 w 0 (by decide)
          try simp only [zuI_1, zuI_2, zuJ_1, zuJ_2, zuJ_3, zuP_1, zuP_2, zuP_3, zuC_1, zuC_2, reduceIte, Nat.reduceEqDiff, false_and, and_false, true_and, and_true, and_self, or_true, true_or, or_false, false_or] at tr77_1046
          have tr77_1021 := zsm_at hz77 1021 w 0 (by decide)
          try simp only [zuI_1, zuI_2, zuJ_1, zuJ_2, zuJ_3, zuP_1, zuP_2, zuP_3, zuC_1, zuC_2, reduceIte, Nat.reduceEqDiff, false_and, and_false, true_and, and_true, and_self, or_true, true_or, or_false, false_or] at tr77_1021
          have tr77_1007 := zsm_at hz77 1007 w 0 (by decide)
          try simp only [zuI_1, zuI_2, zuJ_1, zuJ_2, zuJ_3, zuP_1, zuP_2, zuP_3, zuC_1, zuC_2, reduceIte, Nat.reduceEqDiff, false_and, and_false, true_and, and_true, and_self, or_true, true_or, or_false, false_or] at tr77_1007
          have tr77_1010 := zsm_at hz77 1010 w 0 (by decide)
          try simp only [zuI_1, zuI_2, zuJ_1, zuJ_2, zuJ_3, zuP_1, zuP_2, zuP_3, zuC_1, zuC_2, reduceIte, Nat.reduceEqDiff, false_and, and_false, true_and, and_true, and_self, or_true, true_or, or_false, false_or] at tr77_1010
          have tr77_1006 := zsm_at hz77 1006 w 0 (by decide)
          try simp only [zuI_1, zuI_2, zuJ_1, zuJ_2, zuJ_3, zuP_1, zuP_2, zuP_3, zuC_1, zuC_2, reduceIte, Nat.reduceEqDiff, false_and, and_false, true_and, and_true, and_self, or_true, true_or, or_false, false_or] at tr77_1006
          have tr77_1008 := zsm_at hz77 1008 w 0 (by decide)
          try simp only [zuI_1, zuI_2, zuJ_1, zuJ_2, zuJ_3, zuP_1, zuP_2, zuP_3, zuC_1, zuC_2, reduceIte, Nat.reduceEqDiff, false_and, and_false, true_and, and_true, and_self, or_true, true_or, or_false, false_or] at tr77_1008
          have tr77_1009 := zsm_at hz77 1009 w 0 (by decide)
          try simp only [zuI_1, zuI_2, zuJ_1, zuJ_2, zuJ_3, zuP_1, zuP_2, zuP_3, zuC_1, zuC_2, reduceIte, Nat.reduceEqDiff, false_and, and_false, true_and, and_true, and_self, or_true, true_or, or_false, false_or] at tr77_1009
          rw [hz67.1 2077 (by decide), tr67_1042] at hq77
          have hw77 := hq77.2.1
          refine zs_aload_n (pc := 80) C dX9_leafRead_80 rfl ?_
          refine zVv0 (pc := 81) C dX9_leafRead_81 v_X9_230 (c_X9_tokenGY hX (by repeat (first | assumption | decide | apply gT_I | apply gT_sm))) (by decide) (by decide) ⟨Nat.zero_le _, Nat.zero_le _⟩ (Nat.le_of_ble_eq_true rfl) (fun G81 hp81 => ?_)
          obtain ⟨hz81, lo81, hq81⟩ := hp81
          have tr81_1042 := zsm_at hz81 1042 w 0 (by decide)
          try simp only [zuI_1, zuI_2, zuJ_1, zuJ_2, zuJ_3, zuP_1, zuP_2, zuP_3, zuC_1, zuC_2, reduceIte, Nat.reduceEqDiff, false_and, and_false, true_and, and_true, and_self, or_true, true_or, or_false, false_or] at tr81_1042
          have tr81_1043 := zsm_at hz81 1043 w 0 (by decide)
          try simp only [zuI_1, zuI_2, zuJ_1, zuJ_2, zuJ_3, zuP_1, zuP_2, zuP_3, zuC_1, zuC_2, reduceIte, Nat.reduceEqDiff, false_and, and_false, true_and, and_true, and_self, or_true, true_or, or_false, false_or] at tr81_1043
          have tr81_1044 := zsm_at hz81 1044 w 0 (by decide)
          try simp only [zuI_1, zuI_2, zuJ_1, zuJ_2, zuJ_3, zuP_1, zuP_2, zuP_3, zuC_1, zuC_2, reduceIte, Nat.reduceEqDiff, false_and, and_false, true_and, and_true, and_self, or_true, true_or, or_false, false_or] at tr81_1044
          have tr81_1045 := zsm_at hz81 1045 w 0 (by decide)
          try simp only [zuI_1, zuI_2, zuJ_1, zuJ_2, zuJ_3, zuP_1, zuP_2, zuP_3, zuC_1, zuC_2, reduceIte, Nat.reduceEqDiff, false_and, and_false, true_and, and_true, and_self, or_true, true_or, or_false, false_or] at tr81_1045
          have tr81_1046 := zsm_at hz81 1046 w 0 (by decide)
          try simp only [zuI_1, zuI_2, zuJ_1, zuJ_2, zuJ_3, zuP_1, zuP_2, zuP_3, zuC_1, zuC_2, reduceIte, Nat.reduceEqDiff, false_and, and_false, true_and, and_true, and_self, or_true, true_or, or_false, false_or] at tr81_1046
          have tr81_1021 := zsm_at hz81 1021 w 0 (by decide)
          try simp only [zuI_1, zuI_2, zuJ_1, zuJ_2, zuJ_3, zuP_1, zuP_2, zuP_3, zuC_1, zuC_2, reduceIte, Nat.reduceEqDiff, false_and, and_false, true_and, and_true, and_self, or_true, true_or, or_false, false_or] at tr81_1021
          have tr81_1006 := zsm_at hz81 1006 w 0 (by decide)
          try simp only [zuI_1, zuI_2, zuJ_1, zuJ_2, zuJ_3, zuP_1, zuP_2, zuP_3, zuC_1, zuC_2, reduceIte, Nat.reduceEqDiff, false_and, and_false, true_and, and_true, and_self, or_true, true_or, or_false, false_or] at tr81_1006
          have e77 : G81.1 2077 = G77.1 2077 := by exact hz81.1 2077 (by decide)
          have e42 : G81.1 1042 w 0 = G.1 1042 w 0 + 1 := by omega
          have hPI : PI Γ w G81 := by
            unfold PI
            rw [e77, e42]
            exact ⟨by omega, by omega, by omega, fun q => by omega⟩
          have z20 : 0 ≤ A 22 0 := by omega
          have w77 := hq77.1
          have c67 := hq67.2.1 (by omega)
          clear hq77 hq67 c67a r3 p1 p2 p3 p4 k3 k0 e77 e42
          have hh77 := hz81.1 2077 (by decide)
          have t1004 := zsm_at hz81 1004 w 0 (by decide)
          have t1005 := zsm_at hz81 1005 w 0 (by decide)
          have t1047 := zsm_at hz81 1047 w 0 (by decide)
          have u1004 := zsm_at hz77 1004 w 0 (by decide)
          have u1005 := zsm_at hz77 1005 w 0 (by decide)
          have u1047 := zsm_at hz77 1047 w 0 (by decide)
          have v1047 := zsm_at hz67 1047 w 0 (by decide)
          have hgX : gX b n Γ w (sSide b n A) G81 := gX_push (k := 4) (C := up A 21 0 (A 21 0 + 1)) (by omega) (by omega) hq81 hK hE hS (by simp (disch := decide) only [sNext_f, up_f, up_eq, up_at]) (by simp (disch := decide) only [sNext_f, up_f, up_eq, up_at]; exact h0) (by simp (disch := decide) only [sNext_f, up_f, up_eq, up_at]) (fun f j hf => by rw [up_f (by omega)]) (fun f j hf => by rw [up_f (by omega)]) (by omega) (by omega) (by omega) (by omega) (by simp (disch := decide) only [sNext_f, up_f, up_eq, up_at]; omega) (by simp (disch := decide) only [sNext_f, up_f, up_eq, up_at]; omega) (by simp (disch := decide) only [sNext_f, up_f, up_eq, up_at]; omega) (by omega) (by simp (disch := decide) only [sNext_f, up_f, up_eq, up_at]; omega)
            (by rw [hz81.1 2074 (by decide), hz77.1 2074 (by decide), hz67.1 2074 (by decide)]) (by rw [hz81.1 2075 (by decide), hz77.1 2075 (by decide), hz67.1 2075 (by decide)]) (by rw [hz81.1 2076 (by decide), hz77.1 2076 (by decide), hz67.1 2076 (by decide)]) (by rw [hz81.1 2078 (by decide), hz77.1 2078 (by decide), hz67.1 2078 (by decide)])
            (fun j => by rw [hh77, hw77 j, show rk 4 = 2 from rfl, show (G.1 1042 w 0).toNat = (A 22 0).toNat by omega])
          have hadv := gT_adv hG hq81 (by have := r53.1; omega)
          refine zs_iconst (pc := 84) C dX9_leafRead_84 (by decide) ?_
          exact zs_zret (pc := 85) C hr hlk dX9_leafRead_85 (by omega) ⟨by repeat (first | exact zsm_rf | assumption | refine zsm_C (by decide) ?_ | refine zsm_I (by decide) ?_ | refine zsm_J ?_ | refine zsm_c (by assumption) (by decide) ?_), (by with_reducible repeat (first | exact LJr_rf | assumption | refine LJr_I (h := 0) (by decide) (Nat.zero_le _) ?_ | refine LJr_I (h := 3) (by decide) (by omega) ?_ | refine LJr_I (h := 4) (by decide) (by omega) ?_ | refine LJr_I (h := 5) (by decide) (by omega) ?_ | refine LJr_I (h := 7) (by decide) (by omega) ?_ | refine LJr_I (h := 20) (by decide) (by omega) ?_ | refine LJr_I (h := 64) (by decide) (by omega) ?_ | refine LJr_c (by assumption) ?_)), ⟨by omega, (by repeat (first | assumption | refine MI_I (by decide) ?_ | refine MI_J ?_ | refine MI_sm (by assumption) (by decide) ?_ | refine MI_sn (by assumption) (by decide) ?_)), fun _ => ⟨hPI, hadv, hgX⟩, fun q => by omega⟩⟩
        · skip
          refine zs_iconst (pc := 73) C dX9_leafRead_73 (by decide) ?_
          exact zs_zret (pc := 74) C hr hlk dX9_leafRead_74 (by omega) ⟨by repeat (first | exact zsm_rf | assumption | refine zsm_C (by decide) ?_ | refine zsm_I (by decide) ?_ | refine zsm_J ?_ | refine zsm_c (by assumption) (by decide) ?_), (by with_reducible repeat (first | exact LJr_rf | assumption | refine LJr_I (h := 0) (by decide) (Nat.zero_le _) ?_ | refine LJr_I (h := 3) (by decide) (by omega) ?_ | refine LJr_I (h := 4) (by decide) (by omega) ?_ | refine LJr_I (h := 5) (by decide) (by omega) ?_ | refine LJr_I (h := 7) (by decide) (by omega) ?_ | refine LJr_I (h := 20) (by decide) (by omega) ?_ | refine LJr_I (h := 64) (by decide) (by omega) ?_ | refine LJr_c (by assumption) ?_)), ⟨by omega, (by repeat (first | assumption | refine MI_I (by decide) ?_ | refine MI_J ?_ | refine MI_sm (by assumption) (by decide) ?_ | refine MI_sn (by assumption) (by decide) ?_)), fun q => by omega, fun _ => by first | (exfalso; omega) | (rw [sSide_nt64 r53 (by omega) (by have := (hq67.2.2 (by omega)).1; omega)]; exact FT_fail h0 (by decide) (hq67.2.2 (by omega)).2.2.1 ((hq67.2.2 (by omega)).2.2.2.trans g10))⟩⟩
  · skip
    have r3 := z3.mp (by omega)
    clear z3
    refine zs_aload_n (pc := 9) C dX9_leafRead_9 rfl ?_
    refine zs_geti (r := 1044) (pc := 10) C dX9_leafRead_10 w_X9_328 f_10_44 rfl (r_1044 0) (fun v10 e10 l10 u10 => ?_)
    refine zs_bipush (pc := 13) C dX9_leafRead_13 (by decide) (by decide) ?_
    refine zs_icmp_ne (tgt := 24) (pc := 15) C dX9_leafRead_15 (by decide) (fun h15 => ?_) (fun h15 => ?_)
    · skip
      have hS := sSide_op r3 (by omega) (by omega)
      refine zs_aload_n (pc := 24) C dX9_leafRead_24 rfl ?_
      refine zs_dupa (pc := 25) C dX9_leafRead_25 ?_
      refine zs_geti (r := 1044) (pc := 26) C dX9_leafRead_26 w_X9_328 f_10_44 rfl (r_1044 0) (fun v26 e26 l26 u26 => ?_)
      refine zs_iconst (pc := 29) C dX9_leafRead_29 (by decide) ?_
      first | refine zs_iadd (pc := 30) C dX9_leafRead_30 (by omega) ?_ | refine zs_iaddF (pc := 30) C dX9_leafRead_30 (fun z30 hz301 hz302 => ?_)
      refine zs_puti (r := 1044) (pc := 31) C dX9_leafRead_31 w_X9_328 f_10_44 rfl (r_1044 0) (by omega) ?_
      refine zs_aload_n (pc := 34) C dX9_leafRead_34 rfl ?_
      refine zs_iconst (pc := 35) C dX9_leafRead_35 (by decide) ?_
      refine zVv1 (pc := 36) C dX9_leafRead_36 v_X9_331 (c_X9_waitsForY hX (by first | omega | (simp only [zuI_1, zuI_2, zuJ_1, zuJ_2, zuJ_3, zuP_1, zuP_2, zuP_3, zuC_1, zuC_2, reduceIte, Nat.reduceEqDiff, false_and, and_false, true_and, and_true, and_self, or_true, true_or, or_false, false_or]; omega)) (by first | omega | (simp only [zuI_1, zuI_2, zuJ_1, zuJ_2, zuJ_3, zuP_1, zuP_2, zuP_3, zuC_1, zuC_2, reduceIte, Nat.reduceEqDiff, false_and, and_false, true_and, and_true, and_self, or_true, true_or, or_false, false_or]; omega))) (by decide) (by decide) ⟨Nat.zero_le _, Nat.zero_le _⟩ (Nat.le_of_ble_eq_true rfl) (fun G36 hp36 => ?_)
      obtain ⟨hz36, lo36, hq36⟩ := hp36
      try simp only [zuI_1, zuI_2, zuJ_1, zuJ_2, zuJ_3, zuP_1, zuP_2, zuP_3, zuC_1, zuC_2, reduceIte, Nat.reduceEqDiff, false_and, and_false, true_and, and_true, and_self, or_true, true_or, or_false, false_or] at hq36
      have tr36_1043 := zsm_at hz36 1043 w 0 (by decide)
      try simp only [zuI_1, zuI_2, zuJ_1, zuJ_2, zuJ_3, zuP_1, zuP_2, zuP_3, zuC_1, zuC_2, reduceIte, Nat.reduceEqDiff, false_and, and_false, true_and, and_true, and_self, or_true, true_or, or_false, false_or] at tr36_1043
      have tr36_1044 := zsm_at hz36 1044 w 0 (by decide)
      try simp only [zuI_1, zuI_2, zuJ_1, zuJ_2, zuJ_3, zuP_1, zuP_2, zuP_3, zuC_1, zuC_2, reduceIte, Nat.reduceEqDiff, false_and, and_false, true_and, and_true, and_self, or_true, true_or, or_false, false_or] at tr36_1044
      have tr36_1045 := zsm_at hz36 1045 w 0 (by decide)
      try simp only [zuI_1, zuI_2, zuJ_1, zuJ_2, zuJ_3, zuP_1, zuP_2, zuP_3, zuC_1, zuC_2, reduceIte, Nat.reduceEqDiff, false_and, and_false, true_and, and_true, and_self, or_true, true_or, or_false, false_or] at tr36_1045
      have tr36_1046 := zsm_at hz36 1046 w 0 (by decide)
      try simp only [zuI_1, zuI_2, zuJ_1, zuJ_2, zuJ_3, zuP_1, zuP_2, zuP_3, zuC_1, zuC_2, reduceIte, Nat.reduceEqDiff, false_and, and_false, true_and, and_true, and_self, or_true, true_or, or_false, false_or] at tr36_1046
      have tr36_1021 := zsm_at hz36 1021 w 0 (by decide)
      try simp only [zuI_1, zuI_2, zuJ_1, zuJ_2, zuJ_3, zuP_1, zuP_2, zuP_3, zuC_1, zuC_2, reduceIte, Nat.reduceEqDiff, false_and, and_false, true_and, and_true, and_self, or_true, true_or, or_false, false_or] at tr36_1021
      have tr36_1007 := zsm_at hz36 1007 w 0 (by decide)
      try simp only [zuI_1, zuI_2, zuJ_1, zuJ_2, zuJ_3, zuP_1, zuP_2, zuP_3, zuC_1, zuC_2, reduceIte, Nat.reduceEqDiff, false_and, and_false, true_and, and_true, and_self, or_true, true_or, or_false, false_or] at tr36_1007
      have tr36_1010 := zsm_at hz36 1010 w 0 (by decide)
      try simp only [zuI_1, zuI_2, zuJ_1, zuJ_2, zuJ_3, zuP_1, zuP_2, zuP_3, zuC_1, zuC_2, reduceIte, Nat.reduceEqDiff, false_and, and_false, true_and, and_true, and_self, or_true, true_or, or_false, false_or] at tr36_1010
      have tr36_1006 := zsm_at hz36 1006 w 0 (by decide)
      try simp only [zuI_1, zuI_2, zuJ_1, zuJ_2, zuJ_3, zuP_1, zuP_2, zuP_3, zuC_1, zuC_2, reduceIte, Nat.reduceEqDiff, false_and, and_false, true_and, and_true, and_self, or_true, true_or, or_false, false_or] at tr36_1006
      have tr36_1008 := zsm_at hz36 1008 w 0 (by decide)
      try simp only [zuI_1, zuI_2, zuJ_1, zuJ_2, zuJ_3, zuP_1, zuP_2, zuP_3, zuC_1, zuC_2, reduceIte, Nat.reduceEqDiff, false_and, and_false, true_and, and_true, and_self, or_true, true_or, or_false, false_or] at tr36_1008
      have tr36_1009 := zsm_at hz36 1009 w 0 (by decide)
      try simp only [zuI_1, zuI_2, zuJ_1, zuJ_2, zuJ_3, zuP_1, zuP_2, zuP_3, zuC_1, zuC_2, reduceIte, Nat.reduceEqDiff, false_and, and_false, true_and, and_true, and_self, or_true, true_or, or_false, false_or] at tr36_1009
      rw [zuI_ne (show (2077 : Nat) ≠ 1044 by decide)] at hq36
      have hw36 := hq36.2.1
      refine zs_aload_n (pc := 39) C dX9_leafRead_39 rfl ?_
      refine zs_iconst (pc := 40) C dX9_leafRead_40 (by decide) ?_
      refine zs_putz (r := 1047) (pc := 41) C dX9_leafRead_41 w_X9_335 f_10_47 rfl (r_1047 0) (by omega) (by omega) ?_
      refine zs_aload_n (pc := 44) C dX9_leafRead_44 rfl ?_
      refine zVv0 (pc := 45) C dX9_leafRead_45 v_X9_230 (c_X9_tokenGY hX (by repeat (first | assumption | decide | apply gT_I | apply gT_sm))) (by decide) (by decide) ⟨Nat.zero_le _, Nat.zero_le _⟩ (Nat.le_of_ble_eq_true rfl) (fun G45 hp45 => ?_)
      obtain ⟨hz45, lo45, hq45⟩ := hp45
      try simp only [zuI_1, zuI_2, zuJ_1, zuJ_2, zuJ_3, zuP_1, zuP_2, zuP_3, zuC_1, zuC_2, reduceIte, Nat.reduceEqDiff, false_and, and_false, true_and, and_true, and_self, or_true, true_or, or_false, false_or] at hq45
      have tr45_1042 := zsm_at hz45 1042 w 0 (by decide)
      try simp only [zuI_1, zuI_2, zuJ_1, zuJ_2, zuJ_3, zuP_1, zuP_2, zuP_3, zuC_1, zuC_2, reduceIte, Nat.reduceEqDiff, false_and, and_false, true_and, and_true, and_self, or_true, true_or, or_false, false_or] at tr45_1042
      have tr45_1043 := zsm_at hz45 1043 w 0 (by decide)
      try simp only [zuI_1, zuI_2, zuJ_1, zuJ_2, zuJ_3, zuP_1, zuP_2, zuP_3, zuC_1, zuC_2, reduceIte, Nat.reduceEqDiff, false_and, and_false, true_and, and_true, and_self, or_true, true_or, or_false, false_or] at tr45_1043
      have tr45_1044 := zsm_at hz45 1044 w 0 (by decide)
      try simp only [zuI_1, zuI_2, zuJ_1, zuJ_2, zuJ_3, zuP_1, zuP_2, zuP_3, zuC_1, zuC_2, reduceIte, Nat.reduceEqDiff, false_and, and_false, true_and, and_true, and_self, or_true, true_or, or_false, false_or] at tr45_1044
      have tr45_1045 := zsm_at hz45 1045 w 0 (by decide)
      try simp only [zuI_1, zuI_2, zuJ_1, zuJ_2, zuJ_3, zuP_1, zuP_2, zuP_3, zuC_1, zuC_2, reduceIte, Nat.reduceEqDiff, false_and, and_false, true_and, and_true, and_self, or_true, true_or, or_false, false_or] at tr45_1045
      have tr45_1046 := zsm_at hz45 1046 w 0 (by decide)
      try simp only [zuI_1, zuI_2, zuJ_1, zuJ_2, zuJ_3, zuP_1, zuP_2, zuP_3, zuC_1, zuC_2, reduceIte, Nat.reduceEqDiff, false_and, and_false, true_and, and_true, and_self, or_true, true_or, or_false, false_or] at tr45_1046
      have tr45_1021 := zsm_at hz45 1021 w 0 (by decide)
      try simp only [zuI_1, zuI_2, zuJ_1, zuJ_2, zuJ_3, zuP_1, zuP_2, zuP_3, zuC_1, zuC_2, reduceIte, Nat.reduceEqDiff, false_and, and_false, true_and, and_true, and_self, or_true, true_or, or_false, false_or] at tr45_1021
      have tr45_1006 := zsm_at hz45 1006 w 0 (by decide)
      try simp only [zuI_1, zuI_2, zuJ_1, zuJ_2, zuJ_3, zuP_1, zuP_2, zuP_3, zuC_1, zuC_2, reduceIte, Nat.reduceEqDiff, false_and, and_false, true_and, and_true, and_self, or_true, true_or, or_false, false_or] at tr45_1006
      have e77 : G45.1 2077 = G36.1 2077 := by rw [hz45.1 2077 (by decide), zuI_ne (show (2077 : Nat) ≠ 1047 by decide)]
      have e42 : G45.1 1042 w 0 = G.1 1042 w 0 + 1 := by omega
      have hPI : PI Γ w G45 := by
        unfold PI
        rw [e77, e42]
        exact ⟨by omega, by omega, by omega, fun q => by omega⟩
      have z20 : 0 ≤ A 22 0 := by omega
      have w36 := hq36.1
      clear hq36 p1 p2 p3 p4 k3 k0 e77 e42
      have hh77 := hz45.1 2077 (by decide)
      have t1004 := zsm_at hz45 1004 w 0 (by decide)
      have t1005 := zsm_at hz45 1005 w 0 (by decide)
      have t1047 := zsm_at hz45 1047 w 0 (by decide)
      have u1004 := zsm_at hz36 1004 w 0 (by decide)
      have u1005 := zsm_at hz36 1005 w 0 (by decide)
      try simp only [zuI_1, zuI_2, zuJ_1, zuJ_2, zuJ_3, zuP_1, zuP_2, zuP_3, zuC_1, zuC_2, reduceIte, Nat.reduceEqDiff, false_and, and_false, true_and, and_true, and_self, or_true, true_or, or_false, false_or] at t1004 t1005 t1047
      try simp only [zuI_1, zuI_2, zuJ_1, zuJ_2, zuJ_3, zuP_1, zuP_2, zuP_3, zuC_1, zuC_2, reduceIte, Nat.reduceEqDiff, false_and, and_false, true_and, and_true, and_self, or_true, true_or, or_false, false_or] at u1004 u1005
      have hgX : gX b n Γ w (sSide b n A) G45 := gX_push (k := 15) (C := up (up A 23 0 (A 23 0 + 1)) 25 0 1) (by omega) (by omega) hq45 hK hE hS (by simp (disch := decide) only [sNext_f, up_f, up_eq, up_at]) (by simp (disch := decide) only [sNext_f, up_f, up_eq, up_at]; exact h0) (by simp (disch := decide) only [sNext_f, up_f, up_eq, up_at]) (fun f j hf => by rw [up_f (by omega), up_f (by omega)]) (fun f j hf => by rw [up_f (by omega), up_f (by omega)]) (by omega) (by omega) (by omega) (by omega) (by simp (disch := decide) only [sNext_f, up_f, up_eq, up_at]; omega) (by simp (disch := decide) only [sNext_f, up_f, up_eq, up_at]; omega) (by simp (disch := decide) only [sNext_f, up_f, up_eq, up_at]; omega) (by omega) (by simp (disch := decide) only [sNext_f, up_f, up_eq, up_at]; omega)
        (by rw [hz45.1 2074 (by decide), zuI_nf (by decide), hz36.1 2074 (by decide), zuI_nf (by decide)]) (by rw [hz45.1 2075 (by decide), zuI_nf (by decide), hz36.1 2075 (by decide), zuI_nf (by decide)]) (by rw [hz45.1 2076 (by decide), zuI_nf (by decide), hz36.1 2076 (by decide), zuI_nf (by decide)]) (by rw [hz45.1 2078 (by decide), zuI_nf (by decide), hz36.1 2078 (by decide), zuI_nf (by decide)])
        (fun j => by rw [hh77, zuI_nf (by decide), hw36 j, show rk 15 = 0 from rfl, show (G.1 1042 w 0).toNat = (A 22 0).toNat by omega])
      have hadv := gT_adv hG hq45 (by have := r3.1; omega)
      refine zs_iconst (pc := 48) C dX9_leafRead_48 (by decide) ?_
      exact zs_zret (pc := 49) C hr hlk dX9_leafRead_49 (by omega) ⟨by repeat (first | exact zsm_rf | assumption | refine zsm_C (by decide) ?_ | refine zsm_I (by decide) ?_ | refine zsm_J ?_ | refine zsm_c (by assumption) (by decide) ?_), (by with_reducible repeat (first | exact LJr_rf | assumption | refine LJr_I (h := 0) (by decide) (Nat.zero_le _) ?_ | refine LJr_I (h := 3) (by decide) (by omega) ?_ | refine LJr_I (h := 4) (by decide) (by omega) ?_ | refine LJr_I (h := 5) (by decide) (by omega) ?_ | refine LJr_I (h := 7) (by decide) (by omega) ?_ | refine LJr_I (h := 20) (by decide) (by omega) ?_ | refine LJr_I (h := 64) (by decide) (by omega) ?_ | refine LJr_c (by assumption) ?_)), ⟨by omega, (by repeat (first | assumption | refine MI_I (by decide) ?_ | refine MI_J ?_ | refine MI_sm (by assumption) (by decide) ?_ | refine MI_sn (by assumption) (by decide) ?_)), fun _ => ⟨hPI, hadv, hgX⟩, fun q => by omega⟩⟩
    · skip
      refine zs_aload_n (pc := 18) C dX9_leafRead_18 rfl ?_
      refine zs_iconst (pc := 19) C dX9_leafRead_19 (by decide) ?_
      refine zVi1 (pc := 20) C dX9_leafRead_20 v_X9_220 (c_X9_wrongY hX ) (by decide) (by decide) ⟨Nat.zero_le _, Nat.zero_le _⟩ (Nat.le_of_ble_eq_true rfl) (fun x20 G20 l20 u20 hp20 => ?_)
      obtain ⟨hz20, lo20, hq20⟩ := hp20
      have tr20_1042 := zsm_at hz20 1042 w 0 (by decide)
      try simp only [zuI_1, zuI_2, zuJ_1, zuJ_2, zuJ_3, zuP_1, zuP_2, zuP_3, zuC_1, zuC_2, reduceIte, Nat.reduceEqDiff, false_and, and_false, true_and, and_true, and_self, or_true, true_or, or_false, false_or] at tr20_1042
      have tr20_1043 := zsm_at hz20 1043 w 0 (by decide)
      try simp only [zuI_1, zuI_2, zuJ_1, zuJ_2, zuJ_3, zuP_1, zuP_2, zuP_3, zuC_1, zuC_2, reduceIte, Nat.reduceEqDiff, false_and, and_false, true_and, and_true, and_self, or_true, true_or, or_false, false_or] at tr20_1043
      have tr20_1044 := zsm_at hz20 1044 w 0 (by decide)
      try simp only [zuI_1, zuI_2, zuJ_1, zuJ_2, zuJ_3, zuP_1, zuP_2, zuP_3, zuC_1, zuC_2, reduceIte, Nat.reduceEqDiff, false_and, and_false, true_and, and_true, and_self, or_true, true_or, or_false, false_or] at tr20_1044
      have tr20_1045 := zsm_at hz20 1045 w 0 (by decide)
      try simp only [zuI_1, zuI_2, zuJ_1, zuJ_2, zuJ_3, zuP_1, zuP_2, zuP_3, zuC_1, zuC_2, reduceIte, Nat.reduceEqDiff, false_and, and_false, true_and, and_true, and_self, or_true, true_or, or_false, false_or] at tr20_1045
      have tr20_1046 := zsm_at hz20 1046 w 0 (by decide)
      try simp only [zuI_1, zuI_2, zuJ_1, zuJ_2, zuJ_3, zuP_1, zuP_2, zuP_3, zuC_1, zuC_2, reduceIte, Nat.reduceEqDiff, false_and, and_false, true_and, and_true, and_self, or_true, true_or, or_false, false_or] at tr20_1046
      have tr20_1021 := zsm_at hz20 1021 w 0 (by decide)
      try simp only [zuI_1, zuI_2, zuJ_1, zuJ_2, zuJ_3, zuP_1, zuP_2, zuP_3, zuC_1, zuC_2, reduceIte, Nat.reduceEqDiff, false_and, and_false, true_and, and_true, and_self, or_true, true_or, or_false, false_or] at tr20_1021
      have tr20_1007 := zsm_at hz20 1007 w 0 (by decide)
      try simp only [zuI_1, zuI_2, zuJ_1, zuJ_2, zuJ_3, zuP_1, zuP_2, zuP_3, zuC_1, zuC_2, reduceIte, Nat.reduceEqDiff, false_and, and_false, true_and, and_true, and_self, or_true, true_or, or_false, false_or] at tr20_1007
      have tr20_1010 := zsm_at hz20 1010 w 0 (by decide)
      try simp only [zuI_1, zuI_2, zuJ_1, zuJ_2, zuJ_3, zuP_1, zuP_2, zuP_3, zuC_1, zuC_2, reduceIte, Nat.reduceEqDiff, false_and, and_false, true_and, and_true, and_self, or_true, true_or, or_false, false_or] at tr20_1010
      have tr20_1006 := zsm_at hz20 1006 w 0 (by decide)
      try simp only [zuI_1, zuI_2, zuJ_1, zuJ_2, zuJ_3, zuP_1, zuP_2, zuP_3, zuC_1, zuC_2, reduceIte, Nat.reduceEqDiff, false_and, and_false, true_and, and_true, and_self, or_true, true_or, or_false, false_or] at tr20_1006
      have tr20_1008 := zsm_at hz20 1008 w 0 (by decide)
      try simp only [zuI_1, zuI_2, zuJ_1, zuJ_2, zuJ_3, zuP_1, zuP_2, zuP_3, zuC_1, zuC_2, reduceIte, Nat.reduceEqDiff, false_and, and_false, true_and, and_true, and_self, or_true, true_or, or_false, false_or] at tr20_1008
      have tr20_1009 := zsm_at hz20 1009 w 0 (by decide)
      try simp only [zuI_1, zuI_2, zuJ_1, zuJ_2, zuJ_3, zuP_1, zuP_2, zuP_3, zuC_1, zuC_2, reduceIte, Nat.reduceEqDiff, false_and, and_false, true_and, and_true, and_self, or_true, true_or, or_false, false_or] at tr20_1009
      exact zs_zret (pc := 23) C hr hlk dX9_leafRead_23 (by omega) ⟨by repeat (first | exact zsm_rf | assumption | refine zsm_C (by decide) ?_ | refine zsm_I (by decide) ?_ | refine zsm_J ?_ | refine zsm_c (by assumption) (by decide) ?_), (by with_reducible repeat (first | exact LJr_rf | assumption | refine LJr_I (h := 0) (by decide) (Nat.zero_le _) ?_ | refine LJr_I (h := 3) (by decide) (by omega) ?_ | refine LJr_I (h := 4) (by decide) (by omega) ?_ | refine LJr_I (h := 5) (by decide) (by omega) ?_ | refine LJr_I (h := 7) (by decide) (by omega) ?_ | refine LJr_I (h := 20) (by decide) (by omega) ?_ | refine LJr_I (h := 64) (by decide) (by omega) ?_ | refine LJr_c (by assumption) ?_)), ⟨by omega, (by repeat (first | assumption | refine MI_I (by decide) ?_ | refine MI_J ?_ | refine MI_sm (by assumption) (by decide) ?_ | refine MI_sn (by assumption) (by decide) ?_)), fun q => by omega, fun _ => by first | (exfalso; omega) | (rw [sSide_op8 r3 (by omega)]; exact FT_fail h0 (by decide) hq20.2.1 (hq20.2.2.trans g10))⟩⟩
