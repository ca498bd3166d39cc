set_option maxHeartbeats 4000000 in
set_option maxRecDepth 100000 in
theorem c_X9_signsY {l : Launch} {Γ : zΓ} {G : zH} {w : Nat} {b : Nat → Int} {n : Int} {A : aS}  (hX : zXs Γ) (hM : MI Γ w G)(hG : gT b n Γ w A G) (hQ : PI Γ w G) (hK : gK Γ w A G) (hE : gE Γ w A G) (h0 : A 1 0 = 0) (h4 : G.1 1004 w 0 = 0 ∧ G.1 1005 w 0 = A 2 0) (hw : G.1 1046 w 0 = 0) (hs : ¬ (tK b n A = 4 ∧ tV b n A = 17 ∧ A 23 0 = 0)) : zMet l Γ yX9_signs cX9_signs 2 (some .boolean) 2 [zr 10 w] G (zpi (fun x G' => zsm [1007, 1008, 1009, 1010, 1004, 1005, 2074, 2075, 2076, 2078, 1043, 1021, 2077, 1042, 1044, 1045, 1046, 1047] G G' ∧ LJr G G' ∧ ((x = 0 ∨ x = 1) ∧ MI Γ w G' ∧ (x = 1 → PI Γ w G' ∧ G.1 1010 w 0 < G'.1 1010 w 0 ∧ gX b n Γ w (sBehind b n A) G' ∧ sGo b n A = 1) ∧ (x = 0 → FT w (sSemi b n (sBehind b n A)) G' ∧ (sGo b n A = 0 ∨ (sBehind b n A) 1 0 ≠ 0))))) := by
  have g10 := hG.2.2.2.2.1
  have p1 := hQ.1
  have p2 := hQ.2.1
  have p3 := hQ.2.2.1
  have p4 := hQ.2.2.2
  have k3 := c3_le (G.1 2077 (Γ.2.1 w 40)) (G.1 1042 w 0).toNat
  have k0 := c0_le (G.1 2077 (Γ.2.1 w 40)) (G.1 1042 w 0).toNat
  have aa42 := hE.1
  have aa43 := hE.2.1
  have aa44 := hE.2.2.1
  have aa46 := hE.2.2.2.1
  have aa47 := hE.2.2.2.2.1
  have aa21 := hK.1
  have aa45 := hK.2.1
  refine zMet_of RX9 hX (by decide) rfl (Nat.le_of_ble_eq_true rfl) ?_
  intro p e s m args below meth c C hr hlk
  show Z p l e (zrm 2) s m args below meth c Γ 2 0 0 (MQ below (zQc Γ (zpi (fun x G' => zsm [1007, 1008, 1009, 1010, 1004, 1005, 2074, 2075, 2076, 2078, 1043, 1021, 2077, 1042, 1044, 1045, 1046, 1047] G G' ∧ LJr G G' ∧ ((x = 0 ∨ x = 1) ∧ MI Γ w G' ∧ (x = 1 → PI Γ w G' ∧ G.1 1010 w 0 < G'.1 1010 w 0 ∧ gX b n Γ w (sBehind b n A) G' ∧ sGo b n A = 1) ∧ (x = 0 → FT w (sSemi b n (sBehind b n A)) G' ∧ (sGo b n A = 0 ∨ (sBehind b n A) 1 0 ≠ 0)))))) args s 0 0 (zA Γ)) 0 [some (zr 10 w), none] [] G
  refine zs_good (fun hGdg => ?_)
  have hbg_1042 := hGdg.1 1042 w 0
  rw [r_1042] at hbg_1042
  have hbg_1044 := hGdg.1 1044 w 0
  rw [r_1044] at hbg_1044
  have hbg_1045 := hGdg.1 1045 w 0
  rw [r_1045] at hbg_1045
  have hbg_1021 := hGdg.1 1021 w 0
  rw [r_1021] at hbg_1021
  refine zs_aload_n (pc := 0) C dX9_signs_0 rfl ?_
  refine zs_bipush (pc := 1) C dX9_signs_1 (by decide) (by decide) ?_
  refine zVip1 (pc := 3) C dX9_signs_3 v_X9_233 (c_X9_isSignG hX ) (by decide) (by decide) ⟨Nat.zero_le _, Nat.zero_le _⟩ (Nat.le_of_ble_eq_true rfl) (fun x3 l3 u3 hp3 => ?_)
  have hq3 := hp3
  have z3 := hq3.2.trans (gT_sig hG (c := 41) (s := 16) (by omega))
  have b3 := hq3.1
  clear hq3 hp3
  have J47 : ∀ (G0 : zH), (G0 = G) → (¬ (tK b n A = 4 ∧ tV b n A = 16 ∧ 0 < A 23 0)) → Z p l e (zrm 2) s m args below meth c Γ 2 0 0 (MQ below (zQc Γ (zpi (fun x G' => zsm [1007, 1008, 1009, 1010, 1004, 1005, 2074, 2075, 2076, 2078, 1043, 1021, 2077, 1042, 1044, 1045, 1046, 1047] G G' ∧ LJr G G' ∧ ((x = 0 ∨ x = 1) ∧ MI Γ w G' ∧ (x = 1 → PI Γ w G' ∧ G.1 1010 w 0 < G'.1 1010 w 0 ∧ gX b n Γ w (sBehind b n A) G' ∧ sGo b n A = 1) ∧ (x = 0 → FT w (sSemi b n (sBehind b n A)) G' ∧ (sGo b n A = 0 ∨ (sBehind b n A) 1 0 ≠ 0)))))) args s 0 0 (zA Γ)) 47 [some (zr 10 w), none] [] G0 := by
    intro G0 h47_0 h47_1
    rw [h47_0]
    clear z3 b3
    refine zs_aload_n (pc := 47) C dX9_signs_47 rfl ?_
    have J147 : ∀ (k : Int), ((k = 0 ∧ (sKnot b n A) = -1) ∨ (3 ≤ k ∧ k ≤ 14 ∧ k = rk (sKnot b n A) ∧ 2 ≤ (sKnot b n A) ∧ (sKnot b n A) ≤ 14 ∧ (sKnot b n A) ≠ 4 ∧ tK b n A ≠ 0)) → Z p l e (zrm 2) s m args below meth c Γ 2 0 0 (MQ below (zQc Γ (zpi (fun x G' => zsm [1007, 1008, 1009, 1010, 1004, 1005, 2074, 2075, 2076, 2078, 1043, 1021, 2077, 1042, 1044, 1045, 1046, 1047] G G' ∧ LJr G G' ∧ ((x = 0 ∨ x = 1) ∧ MI Γ w G' ∧ (x = 1 → PI Γ w G' ∧ G.1 1010 w 0 < G'.1 1010 w 0 ∧ gX b n Γ w (sBehind b n A) G' ∧ sGo b n A = 1) ∧ (x = 0 → FT w (sSemi b n (sBehind b n A)) G' ∧ (sGo b n A = 0 ∨ (sBehind b n A) 1 0 ≠ 0)))))) args s 0 0 (zA Γ)) 147 [some (zr 10 w), none] [zi k] G := by
      intro k h147_0
      refine zs_istore_n (pc := 147) C dX9_signs_147 (by decide) ?_
      dsimp only [zset, zclr, znone]
      refine zs_iload_n (pc := 148) C dX9_signs_148 rfl ?_
      refine zs_if_ne (tgt := 158) (pc := 149) C dX9_signs_149 (by decide) (fun h149 => ?_) (fun h149 => ?_)
      · skip
        have hk9 : 3 ≤ k ∧ k ≤ 14 ∧ k = rk (sKnot b n A) ∧ 2 ≤ (sKnot b n A) ∧ (sKnot b n A) ≤ 14 ∧ (sKnot b n A) ≠ 4 ∧ tK b n A ≠ 0 := by omega
        clear h147_0
        have bnk := jn_c (c := (sKnot b n A)) (by omega)
        have hSG := sBeh_j (b := b) (n := n) (A := A) (by omega)
        have hS := hSG.1
        have hGo := hSG.2
        refine zs_aload_n (pc := 158) C dX9_signs_158 rfl ?_
        have J175 : ∀ (r : Int), (1 ≤ r ∧ r = (if bnd (sKnot b n A) = 4 then 5 else bnd (sKnot b n A))) → Z p l e (zrm 2) s m args below meth c Γ 2 0 0 (MQ below (zQc Γ (zpi (fun x G' => zsm [1007, 1008, 1009, 1010, 1004, 1005, 2074, 2075, 2076, 2078, 1043, 1021, 2077, 1042, 1044, 1045, 1046, 1047] G G' ∧ LJr G G' ∧ ((x = 0 ∨ x = 1) ∧ MI Γ w G' ∧ (x = 1 → PI Γ w G' ∧ G.1 1010 w 0 < G'.1 1010 w 0 ∧ gX b n Γ w (sBehind b n A) G' ∧ sGo b n A = 1) ∧ (x = 0 → FT w (sSemi b n (sBehind b n A)) G' ∧ (sGo b n A = 0 ∨ (sBehind b n A) 1 0 ≠ 0)))))) args s 0 0 (zA Γ)) 175 [some (zr 10 w), some (zi k)] [zi r, zr 10 w] G := by
          intro r h175_0
          refine zVv1 (pc := 175) C dX9_signs_175 v_X9_348 (c_X9_bindY hX (by repeat (first | assumption | refine MI_I (by decide) ?_ | refine MI_J ?_ | refine MI_sm (by assumption) (by decide) ?_ | refine MI_sn (by assumption) (by decide) ?_)) (by repeat (first | assumption | refine PI_I (by decide) ?_ | refine PI_sm (by assumption) (by decide) ?_)) (by repeat (first | assumption | refine kR_sm (by assumption) (by decide) ?_ | refine kR_I (by decide) ?_ | refine kR_J ?_)) (by repeat (first | assumption | decide | apply gE_I | apply gE_sm)) (by omega) (by omega)) (by decide) (by decide) ⟨Nat.zero_le _, Nat.zero_le _⟩ (Nat.le_of_ble_eq_true rfl) (fun G175 hp175 => ?_)
          obtain ⟨hz175, lo175, hq175⟩ := hp175
          have tr175_1044 := zsm_at hz175 1044 w 0 (by decide)
          try simp only [zuI_1, zuI_2, zuJ_1, zuJ_2, zuJ_3, zuP_1, zuP_2, zuP_3, zuC_1, zuC_2, reduceIte, Nat.reduceEqDiff, false_and, and_false, true_and, and_true, and_self, or_true, true_or, or_false, false_or] at tr175_1044
          have tr175_1045 := zsm_at hz175 1045 w 0 (by decide)
          try simp only [zuI_1, zuI_2, zuJ_1, zuJ_2, zuJ_3, zuP_1, zuP_2, zuP_3, zuC_1, zuC_2, reduceIte, Nat.reduceEqDiff, false_and, and_false, true_and, and_true, and_self, or_true, true_or, or_false, false_or] at tr175_1045
          have tr175_1046 := zsm_at hz175 1046 w 0 (by decide)
          try simp only [zuI_1, zuI_2, zuJ_1, zuJ_2, zuJ_3, zuP_1, zuP_2, zuP_3, zuC_1, zuC_2, reduceIte, Nat.reduceEqDiff, false_and, and_false, true_and, and_true, and_self, or_true, true_or, or_false, false_or] at tr175_1046
          have tr175_1007 := zsm_at hz175 1007 w 0 (by decide)
          try simp only [zuI_1, zuI_2, zuJ_1, zuJ_2, zuJ_3, zuP_1, zuP_2, zuP_3, zuC_1, zuC_2, reduceIte, Nat.reduceEqDiff, false_and, and_false, true_and, and_true, and_self, or_true, true_or, or_false, false_or] at tr175_1007
          have tr175_1010 := zsm_at hz175 1010 w 0 (by decide)
          try simp only [zuI_1, zuI_2, zuJ_1, zuJ_2, zuJ_3, zuP_1, zuP_2, zuP_3, zuC_1, zuC_2, reduceIte, Nat.reduceEqDiff, false_and, and_false, true_and, and_true, and_self, or_true, true_or, or_false, false_or] at tr175_1010
          have tr175_1006 := zsm_at hz175 1006 w 0 (by decide)
          try simp only [zuI_1, zuI_2, zuJ_1, zuJ_2, zuJ_3, zuP_1, zuP_2, zuP_3, zuC_1, zuC_2, reduceIte, Nat.reduceEqDiff, false_and, and_false, true_and, and_true, and_self, or_true, true_or, or_false, false_or] at tr175_1006
          have tr175_1008 := zsm_at hz175 1008 w 0 (by decide)
          try simp only [zuI_1, zuI_2, zuJ_1, zuJ_2, zuJ_3, zuP_1, zuP_2, zuP_3, zuC_1, zuC_2, reduceIte, Nat.reduceEqDiff, false_and, and_false, true_and, and_true, and_self, or_true, true_or, or_false, false_or] at tr175_1008
          have tr175_1009 := zsm_at hz175 1009 w 0 (by decide)
          try simp only [zuI_1, zuI_2, zuJ_1, zuJ_2, zuJ_3, zuP_1, zuP_2, zuP_3, zuC_1, zuC_2, reduceIte, Nat.reduceEqDiff, false_and, and_false, true_and, and_true, and_self, or_true, true_or, or_false, false_or] at tr175_1009
          have hMI := hq175.1
          have hPI175 := hq175.2.1
          have hJ : sRel r A = (sJR (sKnot b n A) A) := by unfold sJR; rw [← h175_0.2]
          have hK175 := hq175.2.2.2.1
          have hE175 := hq175.2.2.2.2
          rw [hJ] at hK175 hE175
          have j0 : (sJR (sKnot b n A) A) 0 0 = A 0 0 := sRel_0 (by decide)
          have j1 : (sJR (sKnot b n A) A) 1 0 = 0 := by unfold sJR; rw [sRel_0 (by decide)]; exact h0
          have j2 : (sJR (sKnot b n A) A) 2 0 = A 2 0 := sRel_0 (by decide)
          have j42 := hE175.1
          have j43 := hE175.2.1
          have j44 := hE175.2.2.1
          have j46 := hE175.2.2.2.1
          have j21 := hK175.1
          have j45 := hK175.2.1
          have jp : tP b n (sJR (sKnot b n A) A) = tP b n A := (tk_00 j0).1
          have p1b := hPI175.1
          have p2b := hPI175.2.1
          have p3b := hPI175.2.2.1
          have p4b := hPI175.2.2.2
          have k3b := c3_le (G175.1 2077 (Γ.2.1 w 40)) (G175.1 1042 w 0).toNat
          have k0b := c0_le (G175.1 2077 (Γ.2.1 w 40)) (G175.1 1042 w 0).toNat
          refine zs_good (fun hGdh => ?_)
          have hbh_1042 := hGdh.1 1042 w 0
          rw [r_1042] at hbh_1042
          have hbh_1044 := hGdh.1 1044 w 0
          rw [r_1044] at hbh_1044
          have hbh_1045 := hGdh.1 1045 w 0
          rw [r_1045] at hbh_1045
          have hbh_1021 := hGdh.1 1021 w 0
          rw [r_1021] at hbh_1021
          refine zs_iload_n (pc := 178) C dX9_signs_178 rfl ?_
          have J217 : ∀ (G0 : zH), (G0 = G175) → (¬ (bnd (sKnot b n A) = 4 ∧ 0 < (sJR (sKnot b n A) A) 22 0 ∧ bnd ((sJR (sKnot b n A) A) 26 ((sJR (sKnot b n A) A) 22 0 - 1).toNat) = 4)) → Z p l e (zrm 2) s m args below meth c Γ 2 0 0 (MQ below (zQc Γ (zpi (fun x G' => zsm [1007, 1008, 1009, 1010, 1004, 1005, 2074, 2075, 2076, 2078, 1043, 1021, 2077, 1042, 1044, 1045, 1046, 1047] G G' ∧ LJr G G' ∧ ((x = 0 ∨ x = 1) ∧ MI Γ w G' ∧ (x = 1 → PI Γ w G' ∧ G.1 1010 w 0 < G'.1 1010 w 0 ∧ gX b n Γ w (sBehind b n A) G' ∧ sGo b n A = 1) ∧ (x = 0 → FT w (sSemi b n (sBehind b n A)) G' ∧ (sGo b n A = 0 ∨ (sBehind b n A) 1 0 ≠ 0)))))) args s 0 0 (zA Γ)) 217 [some (zr 10 w), some (zi k)] [] G0 := by
            intro G0 h217_0 h217_1
            rw [h217_0]
            refine zs_aload_n (pc := 217) C dX9_signs_217 rfl ?_
            refine zVi0 (pc := 218) C dX9_signs_218 v_X9_339 (c_X9_isCountedY hX ) (by decide) (by decide) ⟨Nat.zero_le _, Nat.zero_le _⟩ (Nat.le_of_ble_eq_true rfl) (fun x218 G218 l218 u218 hp218 => ?_)
            obtain ⟨hz218, lo218, hq218⟩ := hp218
            have tr218_1042 := zsm_at hz218 1042 w 0 (by decide)
            try simp only [zuI_1, zuI_2, zuJ_1, zuJ_2, zuJ_3, zuP_1, zuP_2, zuP_3, zuC_1, zuC_2, reduceIte, Nat.reduceEqDiff, false_and, and_false, true_and, and_true, and_self, or_true, true_or, or_false, false_or] at tr218_1042
            have tr218_1043 := zsm_at hz218 1043 w 0 (by decide)
            try simp only [zuI_1, zuI_2, zuJ_1, zuJ_2, zuJ_3, zuP_1, zuP_2, zuP_3, zuC_1, zuC_2, reduceIte, Nat.reduceEqDiff, false_and, and_false, true_and, and_true, and_self, or_true, true_or, or_false, false_or] at tr218_1043
            have tr218_1044 := zsm_at hz218 1044 w 0 (by decide)
            try simp only [zuI_1, zuI_2, zuJ_1, zuJ_2, zuJ_3, zuP_1, zuP_2, zuP_3, zuC_1, zuC_2, reduceIte, Nat.reduceEqDiff, false_and, and_false, true_and, and_true, and_self, or_true, true_or, or_false, false_or] at tr218_1044
            have tr218_1046 := zsm_at hz218 1046 w 0 (by decide)
            try simp only [zuI_1, zuI_2, zuJ_1, zuJ_2, zuJ_3, zuP_1, zuP_2, zuP_3, zuC_1, zuC_2, reduceIte, Nat.reduceEqDiff, false_and, and_false, true_and, and_true, and_self, or_true, true_or, or_false, false_or] at tr218_1046
            have tr218_1021 := zsm_at hz218 1021 w 0 (by decide)
            try simp only [zuI_1, zuI_2, zuJ_1, zuJ_2, zuJ_3, zuP_1, zuP_2, zuP_3, zuC_1, zuC_2, reduceIte, Nat.reduceEqDiff, false_and, and_false, true_and, and_true, and_self, or_true, true_or, or_false, false_or] at tr218_1021
            have tr218_1007 := zsm_at hz218 1007 w 0 (by decide)
            try simp only [zuI_1, zuI_2, zuJ_1, zuJ_2, zuJ_3, zuP_1, zuP_2, zuP_3, zuC_1, zuC_2, reduceIte, Nat.reduceEqDiff, false_and, and_false, true_and, and_true, and_self, or_true, true_or, or_false, false_or] at tr218_1007
            have tr218_1010 := zsm_at hz218 1010 w 0 (by decide)
            try simp only [zuI_1, zuI_2, zuJ_1, zuJ_2, zuJ_3, zuP_1, zuP_2, zuP_3, zuC_1, zuC_2, reduceIte, Nat.reduceEqDiff, false_and, and_false, true_and, and_true, and_self, or_true, true_or, or_false, false_or] at tr218_1010
            have tr218_1006 := zsm_at hz218 1006 w 0 (by decide)
            try simp only [zuI_1, zuI_2, zuJ_1, zuJ_2, zuJ_3, zuP_1, zuP_2, zuP_3, zuC_1, zuC_2, reduceIte, Nat.reduceEqDiff, false_and, and_false, true_and, and_true, and_self, or_true, true_or, or_false, false_or] at tr218_1006
            have tr218_1008 := zsm_at hz218 1008 w 0 (by decide)
            try simp only [zuI_1, zuI_2, zuJ_1, zuJ_2, zuJ_3, zuP_1, zuP_2, zuP_3, zuC_1, zuC_2, reduceIte, Nat.reduceEqDiff, false_and, and_false, true_and, and_true, and_self, or_true, true_or, or_false, false_or] at tr218_1008
            have tr218_1009 := zsm_at hz218 1009 w 0 (by decide)
            try simp only [zuI_1, zuI_2, zuJ_1, zuJ_2, zuJ_3, zuP_1, zuP_2, zuP_3, zuC_1, zuC_2, reduceIte, Nat.reduceEqDiff, false_and, and_false, true_and, and_true, and_self, or_true, true_or, or_false, false_or] at tr218_1009
            refine zs_if_ne (tgt := 226) (pc := 221) C dX9_signs_221 (by decide) (fun h221 => ?_) (fun h221 => ?_)
            · skip
              have c218 := hq218.2.1 (by omega)
              refine zs_aload_n (pc := 226) C dX9_signs_226 rfl ?_
              refine zs_iload_n (pc := 227) C dX9_signs_227 rfl ?_
              refine zVv1 (pc := 228) C dX9_signs_228 v_X9_331 (c_X9_waitsForY hX (by omega) (by omega)) (by decide) (by decide) ⟨Nat.zero_le _, Nat.zero_le _⟩ (Nat.le_of_ble_eq_true rfl) (fun G228 hp228 => ?_)
              obtain ⟨hz228, lo228, hq228⟩ := hp228
              have tr228_1043 := zsm_at hz228 1043 w 0 (by decide)
              try simp only [zuI_1, zuI_2, zuJ_1, zuJ_2, zuJ_3, zuP_1, zuP_2, zuP_3, zuC_1, zuC_2, reduceIte, Nat.reduceEqDiff, false_and, and_false, true_and, and_true, and_self, or_true, true_or, or_false, false_or] at tr228_1043
              have tr228_1044 := zsm_at hz228 1044 w 0 (by decide)
              try simp only [zuI_1, zuI_2, zuJ_1, zuJ_2, zuJ_3, zuP_1, zuP_2, zuP_3, zuC_1, zuC_2, reduceIte, Nat.reduceEqDiff, false_and, and_false, true_and, and_true, and_self, or_true, true_or, or_false, false_or] at tr228_1044
              have tr228_1045 := zsm_at hz228 1045 w 0 (by decide)
              try simp only [zuI_1, zuI_2, zuJ_1, zuJ_2, zuJ_3, zuP_1, zuP_2, zuP_3, zuC_1, zuC_2, reduceIte, Nat.reduceEqDiff, false_and, and_false, true_and, and_true, and_self, or_true, true_or, or_false, false_or] at tr228_1045
              have tr228_1046 := zsm_at hz228 1046 w 0 (by decide)
              try simp only [zuI_1, zuI_2, zuJ_1, zuJ_2, zuJ_3, zuP_1, zuP_2, zuP_3, zuC_1, zuC_2, reduceIte, Nat.reduceEqDiff, false_and, and_false, true_and, and_true, and_self, or_true, true_or, or_false, false_or] at tr228_1046
              have tr228_1021 := zsm_at hz228 1021 w 0 (by decide)
              try simp only [zuI_1, zuI_2, zuJ_1, zuJ_2, zuJ_3, zuP_1, zuP_2, zuP_3, zuC_1, zuC_2, reduceIte, Nat.reduceEqDiff, false_and, and_false, true_and, and_true, and_self, or_true, true_or, or_false, false_or] at tr228_1021
              have tr228_1007 := zsm_at hz228 1007 w 0 (by decide)
              try simp only [zuI_1, zuI_2, zuJ_1, zuJ_2, zuJ_3, zuP_1, zuP_2, zuP_3, zuC_1, zuC_2, reduceIte, Nat.reduceEqDiff, false_and, and_false, true_and, and_true, and_self, or_true, true_or, or_false, false_or] at tr228_1007
              have tr228_1010 := zsm_at hz228 1010 w 0 (by decide)
              try simp only [zuI_1, zuI_2, zuJ_1, zuJ_2, zuJ_3, zuP_1, zuP_2, zuP_3, zuC_1, zuC_2, reduceIte, Nat.reduceEqDiff, false_and, and_false, true_and, and_true, and_self, or_true, true_or, or_false, false_or] at tr228_1010
              have tr228_1006 := zsm_at hz228 1006 w 0 (by decide)
              try simp only [zuI_1, zuI_2, zuJ_1, zuJ_2, zuJ_3, zuP_1, zuP_2, zuP_3, zuC_1, zuC_2, reduceIte, Nat.reduceEqDiff, false_and, and_false, true_and, and_true, and_self, or_true, true_or, or_false, false_or] at tr228_1006
              have tr228_1008 := zsm_at hz228 1008 w 0 (by decide)
              try simp only [zuI_1, zuI_2, zuJ_1, zuJ_2, zuJ_3, zuP_1, zuP_2, zuP_3, zuC_1, zuC_2, reduceIte, Nat.reduceEqDiff, false_and, and_false, true_and, and_true, and_self, or_true, true_or, or_false, false_or] at tr228_1008
              have tr228_1009 := zsm_at hz228 1009 w 0 (by decide)
              try simp only [zuI_1, zuI_2, zuJ_1, zuJ_2, zuJ_3, zuP_1, zuP_2, zuP_3, zuC_1, zuC_2, reduceIte, Nat.reduceEqDiff, false_and, and_false, true_and, and_true, and_self, or_true, true_or, or_false, false_or] at tr228_1009
              rw [hz218.1 2077 (by decide), tr218_1042] at hq228
              have hw228 := hq228.2.1
              refine zs_aload_n (pc := 231) C dX9_signs_231 rfl ?_
              refine zs_iconst (pc := 232) C dX9_signs_232 (by decide) ?_
              refine zs_putz (r := 1046) (pc := 233) C dX9_signs_233 w_X9_345 f_10_46 rfl (r_1046 0) (by omega) (by omega) ?_
              refine zs_aload_n (pc := 236) C dX9_signs_236 rfl ?_
              refine zs_iload_n (pc := 237) C dX9_signs_237 rfl ?_
              refine zSip1 (pc := 238) C dX9_signs_238 s_X9_316 (c_X9_rank hX ) (by decide) ⟨Nat.zero_le _, Nat.zero_le _⟩ (Nat.le_of_ble_eq_true rfl) (fun x238 l238 u238 hp238 => ?_)
              have hq238 := hp238
              try simp only [zuI_1, zuI_2, zuJ_1, zuJ_2, zuJ_3, zuP_1, zuP_2, zuP_3, zuC_1, zuC_2, reduceIte, Nat.reduceEqDiff, false_and, and_false, true_and, and_true, and_self, or_true, true_or, or_false, false_or] at hq238
              have y238 := rank_bnd hk9.2.2.1 (by omega) hq238
              clear hq238 hp238
              refine zs_iconst (pc := 241) C dX9_signs_241 (by decide) ?_
              refine zs_icmp_ge (tgt := 249) (pc := 242) C dX9_signs_242 (by decide) (fun h242 => ?_) (fun h242 => ?_)
              · skip
                refine zs_iconst (pc := 249) C dX9_signs_249 (by decide) ?_
                refine zs_putz (r := 1047) (pc := 250) C dX9_signs_250 w_X9_335 f_10_47 rfl (r_1047 0) (by omega) (by omega) ?_
                refine zs_aload_n (pc := 253) C dX9_signs_253 rfl ?_
                refine zVv0 (pc := 254) C dX9_signs_254 v_X9_230 (c_X9_tokenGY hX (by repeat (first | assumption | decide | apply gT_I | apply gT_sm))) (by decide) (by decide) ⟨Nat.zero_le _, Nat.zero_le _⟩ (Nat.le_of_ble_eq_true rfl) (fun G254 hp254 => ?_)
                obtain ⟨hz254, lo254, hq254⟩ := hp254
                try simp only [zuI_1, zuI_2, zuJ_1, zuJ_2, zuJ_3, zuP_1, zuP_2, zuP_3, zuC_1, zuC_2, reduceIte, Nat.reduceEqDiff, false_and, and_false, true_and, and_true, and_self, or_true, true_or, or_false, false_or] at hq254
                have tr254_1042 := zsm_at hz254 1042 w 0 (by decide)
                try simp only [zuI_1, zuI_2, zuJ_1, zuJ_2, zuJ_3, zuP_1, zuP_2, zuP_3, zuC_1, zuC_2, reduceIte, Nat.reduceEqDiff, false_and, and_false, true_and, and_true, and_self, or_true, true_or, or_false, false_or] at tr254_1042
                have tr254_1043 := zsm_at hz254 1043 w 0 (by decide)
                try simp only [zuI_1, zuI_2, zuJ_1, zuJ_2, zuJ_3, zuP_1, zuP_2, zuP_3, zuC_1, zuC_2, reduceIte, Nat.reduceEqDiff, false_and, and_false, true_and, and_true, and_self, or_true, true_or, or_false, false_or] at tr254_1043
                have tr254_1044 := zsm_at hz254 1044 w 0 (by decide)
                try simp only [zuI_1, zuI_2, zuJ_1, zuJ_2, zuJ_3, zuP_1, zuP_2, zuP_3, zuC_1, zuC_2, reduceIte, Nat.reduceEqDiff, false_and, and_false, true_and, and_true, and_self, or_true, true_or, or_false, false_or] at tr254_1044
                have tr254_1045 := zsm_at hz254 1045 w 0 (by decide)
                try simp only [zuI_1, zuI_2, zuJ_1, zuJ_2, zuJ_3, zuP_1, zuP_2, zuP_3, zuC_1, zuC_2, reduceIte, Nat.reduceEqDiff, false_and, and_false, true_and, and_true, and_self, or_true, true_or, or_false, false_or] at tr254_1045
                have tr254_1046 := zsm_at hz254 1046 w 0 (by decide)
                try simp only [zuI_1, zuI_2, zuJ_1, zuJ_2, zuJ_3, zuP_1, zuP_2, zuP_3, zuC_1, zuC_2, reduceIte, Nat.reduceEqDiff, false_and, and_false, true_and, and_true, and_self, or_true, true_or, or_false, false_or] at tr254_1046
                have tr254_1021 := zsm_at hz254 1021 w 0 (by decide)
                try simp only [zuI_1, zuI_2, zuJ_1, zuJ_2, zuJ_3, zuP_1, zuP_2, zuP_3, zuC_1, zuC_2, reduceIte, Nat.reduceEqDiff, false_and, and_false, true_and, and_true, and_self, or_true, true_or, or_false, false_or] at tr254_1021
                have tr254_1006 := zsm_at hz254 1006 w 0 (by decide)
                try simp only [zuI_1, zuI_2, zuJ_1, zuJ_2, zuJ_3, zuP_1, zuP_2, zuP_3, zuC_1, zuC_2, reduceIte, Nat.reduceEqDiff, false_and, and_false, true_and, and_true, and_self, or_true, true_or, or_false, false_or] at tr254_1006
                have e77 : G254.1 2077 = G228.1 2077 := by rw [hz254.1 2077 (by decide), zuI_ne (show (2077 : Nat) ≠ 1047 by decide), zuI_ne (show (2077 : Nat) ≠ 1046 by decide)]
                have e42 : G254.1 1042 w 0 = G175.1 1042 w 0 + 1 := by omega
                have hPI : PI Γ w G254 := by
                  unfold PI
                  rw [e77, e42]
                  exact ⟨by omega, by omega, by omega, fun q => by omega⟩
                have z20 : 0 ≤ (sJR (sKnot b n A) A) 22 0 ∧ (sJR (sKnot b n A) A) 22 0 < 72 ∧ (sJR (sKnot b n A) A) 21 0 < 64 := by omega
                have w228 := hq228.1
                clear p1 p2 p3 p4 k3 k0 p1b p2b p3b p4b k3b k0b hq228
                have t1004 := zsm_at hz254 1004 w 0 (by decide)
                have t1005 := zsm_at hz254 1005 w 0 (by decide)
                have t1047 := zsm_at hz254 1047 w 0 (by decide)
                have u1004 := zsm_at hz228 1004 w 0 (by decide)
                have u1005 := zsm_at hz228 1005 w 0 (by decide)
                have v1004 := zsm_at hz175 1004 w 0 (by decide)
                have v1005 := zsm_at hz175 1005 w 0 (by decide)
                try simp only [zuI_1, zuI_2, zuJ_1, zuJ_2, zuJ_3, zuP_1, zuP_2, zuP_3, zuC_1, zuC_2, reduceIte, Nat.reduceEqDiff, false_and, and_false, true_and, and_true, and_self, or_true, true_or, or_false, false_or] at t1004 t1005 t1047
                have hSS := hS.trans (sJoint_ok h217_1 j1 (by omega) (by omega))
                have hif : (if bnd (sKnot b n A) < 4 then (1 : Int) else 0) = G254.1 1047 w 0 := by
                  by_cases q : bnd (sKnot b n A) < 4
                  · rw [if_pos q]; omega
                  · rw [if_neg q]; omega
                have hgX : gX b n Γ w (sBehind b n A) G254 := gX_push (A := (sJR (sKnot b n A) A)) (G := G175) (k := (sKnot b n A)) (C := up (up (up (sJR (sKnot b n A) A) 21 0 ((sJR (sKnot b n A) A) 21 0 + 1)) 24 0 1) 25 0 (if bnd (sKnot b n A) < 4 then 1 else 0)) (by omega) (by omega) (gT_A (A := sNext b n A) (sNext_00 j0.symm) hq254) hK175 hE175 hSS (by simp (disch := decide) only [sNext_f, up_f, up_eq, up_at]) (by simp (disch := decide) only [sNext_f, up_f, up_eq, up_at]; exact j1) (by simp (disch := decide) only [sNext_f, up_f, up_eq, up_at]) (fun f j hf => by rw [up_f (by omega), up_f (by omega), up_f (by omega)]) (fun f j hf => by rw [up_f (by omega), up_f (by omega), up_f (by omega)]) (by omega) (by omega) (by omega) (by omega) (by simp (disch := decide) only [sNext_f, up_f, up_eq, up_at]; omega) (by simp (disch := decide) only [sNext_f, up_f, up_eq, up_at]; omega) (by simp (disch := decide) only [sNext_f, up_f, up_eq, up_at]; exact hif.symm) (by omega) (by simp (disch := decide) only [sNext_f, up_f, up_eq, up_at]; omega)
                  (by rw [hz254.1 2074 (by decide), zuI_nf (by decide), zuI_nf (by decide), hz228.1 2074 (by decide), hz218.1 2074 (by decide)]) (by rw [hz254.1 2075 (by decide), zuI_nf (by decide), zuI_nf (by decide), hz228.1 2075 (by decide), hz218.1 2075 (by decide)]) (by rw [hz254.1 2076 (by decide), zuI_nf (by decide), zuI_nf (by decide), hz228.1 2076 (by decide), hz218.1 2076 (by decide)]) (by rw [hz254.1 2078 (by decide), zuI_nf (by decide), zuI_nf (by decide), hz228.1 2078 (by decide), hz218.1 2078 (by decide)])
                  (fun j => by rw [hz254.1 2077 (by decide), zuI_nf (by decide), zuI_nf (by decide), hw228 j, show (G175.1 1042 w 0).toNat = ((sJR (sKnot b n A) A) 22 0).toNat by omega, ← hk9.2.2.1])
                have hadv := gT_adv hG hq254 (by omega)
                refine zs_iconst (pc := 257) C dX9_signs_257 (by decide) ?_
                exact zs_zret (pc := 258) C hr hlk dX9_signs_258 (by omega) ⟨by repeat (first | exact zsm_rf | assumption | refine zsm_C (by decide) ?_ | refine zsm_I (by decide) ?_ | refine zsm_J ?_ | refine zsm_c (by assumption) (by decide) ?_), (by with_reducible repeat (first | exact LJr_rf | assumption | refine LJr_I (h := 0) (by decide) (Nat.zero_le _) ?_ | refine LJr_I (h := 3) (by decide) (by omega) ?_ | refine LJr_I (h := 4) (by decide) (by omega) ?_ | refine LJr_I (h := 5) (by decide) (by omega) ?_ | refine LJr_I (h := 7) (by decide) (by omega) ?_ | refine LJr_I (h := 20) (by decide) (by omega) ?_ | refine LJr_I (h := 64) (by decide) (by omega) ?_ | refine LJr_c (by assumption) ?_)), ⟨by omega, (by repeat (first | assumption | refine MI_I (by decide) ?_ | refine MI_J ?_ | refine MI_sm (by assumption) (by decide) ?_ | refine MI_sn (by assumption) (by decide) ?_)), fun _ => ⟨hPI, hadv, hgX, hGo⟩, fun q => by omega⟩⟩
              · skip
                refine zs_iconst (pc := 245) C dX9_signs_245 (by decide) ?_
                refine zs_goto (tgt := 250) (pc := 246) C dX9_signs_246 (by decide) ?_
                refine zs_putz (r := 1047) (pc := 250) C dX9_signs_250 w_X9_335 f_10_47 rfl (r_1047 0) (by omega) (by omega) ?_
                refine zs_aload_n (pc := 253) C dX9_signs_253 rfl ?_
                refine zVv0 (pc := 254) C dX9_signs_254 v_X9_230 (c_X9_tokenGY hX (by repeat (first | assumption | decide | apply gT_I | apply gT_sm))) (by decide) (by decide) ⟨Nat.zero_le _, Nat.zero_le _⟩ (Nat.le_of_ble_eq_true rfl) (fun G254 hp254 => ?_)
                obtain ⟨hz254, lo254, hq254⟩ := hp254
                try simp only [zuI_1, zuI_2, zuJ_1, zuJ_2, zuJ_3, zuP_1, zuP_2, zuP_3, zuC_1, zuC_2, reduceIte, Nat.reduceEqDiff, false_and, and_false, true_and, and_true, and_self, or_true, true_or, or_false, false_or] at hq254
                have tr254_1042 := zsm_at hz254 1042 w 0 (by decide)
                try simp only [zuI_1, zuI_2, zuJ_1, zuJ_2, zuJ_3, zuP_1, zuP_2, zuP_3, zuC_1, zuC_2, reduceIte, Nat.reduceEqDiff, false_and, and_false, true_and, and_true, and_self, or_true, true_or, or_false, false_or] at tr254_1042
                have tr254_1043 := zsm_at hz254 1043 w 0 (by decide)
                try simp only [zuI_1, zuI_2, zuJ_1, zuJ_2, zuJ_3, zuP_1, zuP_2, zuP_3, zuC_1, zuC_2, reduceIte, Nat.reduceEqDiff, false_and, and_false, true_and, and_true, and_self, or_true, true_or, or_false, false_or] at tr254_1043
                have tr254_1044 := zsm_at hz254 1044 w 0 (by decide)
                try simp only [zuI_1, zuI_2, zuJ_1, zuJ_2, zuJ_3, zuP_1, zuP_2, zuP_3, zuC_1, zuC_2, reduceIte, Nat.reduceEqDiff, false_and, and_false, true_and, and_true, and_self, or_true, true_or, or_false, false_or] at tr254_1044
                have tr254_1045 := zsm_at hz254 1045 w 0 (by decide)
                try simp only [zuI_1, zuI_2, zuJ_1, zuJ_2, zuJ_3, zuP_1, zuP_2, zuP_3, zuC_1, zuC_2, reduceIte, Nat.reduceEqDiff, false_and, and_false, true_and, and_true, and_self, or_true, true_or, or_false, false_or] at tr254_1045
                have tr254_1046 := zsm_at hz254 1046 w 0 (by decide)
                try simp only [zuI_1, zuI_2, zuJ_1, zuJ_2, zuJ_3, zuP_1, zuP_2, zuP_3, zuC_1, zuC_2, reduceIte, Nat.reduceEqDiff, false_and, and_false, true_and, and_true, and_self, or_true, true_or, or_false, false_or] at tr254_1046
                have tr254_1021 := zsm_at hz254 1021 w 0 (by decide)
                try simp only [zuI_1, zuI_2, zuJ_1, zuJ_2, zuJ_3, zuP_1, zuP_2, zuP_3, zuC_1, zuC_2, reduceIte, Nat.reduceEqDiff, false_and, and_false, true_and, and_true, and_self, or_true, true_or, or_false, false_or] at tr254_1021
                have tr254_1006 := zsm_at hz254 1006 w 0 (by decide)
                try simp only [zuI_1, zuI_2, zuJ_1, zuJ_2, zuJ_3, zuP_1, zuP_2, zuP_3, zuC_1, zuC_2, reduceIte, Nat.reduceEqDiff, false_and, and_false, true_and, and_true, and_self, or_true, true_or, or_false, false_or] at tr254_1006
                have e77 : G254.1 2077 = G228.1 2077 := by rw [hz254.1 2077 (by decide), zuI_ne (show (2077 : Nat) ≠ 1047 by decide), zuI_ne (show (2077 : Nat) ≠ 1046 by decide)]
                have e42 : G254.1 1042 w 0 = G175.1 1042 w 0 + 1 := by omega
                have hPI : PI Γ w G254 := by
                  unfold PI
                  rw [e77, e42]
                  exact ⟨by omega, by omega, by omega, fun q => by omega⟩
                have z20 : 0 ≤ (sJR (sKnot b n A) A) 22 0 ∧ (sJR (sKnot b n A) A) 22 0 < 72 ∧ (sJR (sKnot b n A) A) 21 0 < 64 := by omega
                have w228 := hq228.1
                clear p1 p2 p3 p4 k3 k0 p1b p2b p3b p4b k3b k0b hq228
                have t1004 := zsm_at hz254 1004 w 0 (by decide)
                have t1005 := zsm_at hz254 1005 w 0 (by decide)
                have t1047 := zsm_at hz254 1047 w 0 (by decide)
                have u1004 := zsm_at hz228 1004 w 0 (by decide)
                have u1005 := zsm_at hz228 1005 w 0 (by decide)
                have v1004 := zsm_at hz175 1004 w 0 (by decide)
                have v1005 := zsm_at hz175 1005 w 0 (by decide)
                try simp only [zuI_1, zuI_2, zuJ_1, zuJ_2, zuJ_3, zuP_1, zuP_2, zuP_3, zuC_1, zuC_2, reduceIte, Nat.reduceEqDiff, false_and, and_false, true_and, and_true, and_self, or_true, true_or, or_false, false_or] at t1004 t1005 t1047
                have hSS := hS.trans (sJoint_ok h217_1 j1 (by omega) (by omega))
                have hif : (if bnd (sKnot b n A) < 4 then (1 : Int) else 0) = G254.1 1047 w 0 := by
                  by_cases q : bnd (sKnot b n A) < 4
                  · rw [if_pos q]; omega
                  · rw [if_neg q]; omega
                have hgX : gX b n Γ w (sBehind b n A) G254 := gX_push (A := (sJR (sKnot b n A) A)) (G := G175) (k := (sKnot b n A)) (C := up (up (up (sJR (sKnot b n A) A) 21 0 ((sJR (sKnot b n A) A) 21 0 + 1)) 24 0 1) 25 0 (if bnd (sKnot b n A) < 4 then 1 else 0)) (by omega) (by omega) (gT_A (A := sNext b n A) (sNext_00 j0.symm) hq254) hK175 hE175 hSS (by simp (disch := decide) only [sNext_f, up_f, up_eq, up_at]) (by simp (disch := decide) only [sNext_f, up_f, up_eq, up_at]; exact j1) (by simp (disch := decide) only [sNext_f, up_f, up_eq, up_at]) (fun f j hf => by rw [up_f (by omega), up_f (by omega), up_f (by omega)]) (fun f j hf => by rw [up_f (by omega), up_f (by omega), up_f (by omega)]) (by omega) (by omega) (by omega) (by omega) (by simp (disch := decide) only [sNext_f, up_f, up_eq, up_at]; omega) (by simp (disch := decide) only [sNext_f, up_f, up_eq, up_at]; omega) (by simp (disch := decide) only [sNext_f, up_f, up_eq, up_at]; exact hif.symm) (by omega) (by simp (disch := decide) only [sNext_f, up_f, up_eq, up_at]; omega)
                  (by rw [hz254.1 2074 (by decide), zuI_nf (by decide), zuI_nf (by decide), hz228.1 2074 (by decide), hz218.1 2074 (by decide)]) (by rw [hz254.1 2075 (by decide), zuI_nf (by decide), zuI_nf (by decide), hz228.1 2075 (by decide), hz218.1 2075 (by decide)]) (by rw [hz254.1 2076 (by decide), zuI_nf (by decide), zuI_nf (by decide), hz228.1 2076 (by decide), hz218.1 2076 (by decide)]) (by rw [hz254.1 2078 (by decide), zuI_nf (by decide), zuI_nf (by decide), hz228.1 2078 (by decide), hz218.1 2078 (by decide)])
                  (fun j => by rw [hz254.1 2077 (by decide), zuI_nf (by decide), zuI_nf (by decide), hw228 j, show (G175.1 1042 w 0).toNat = ((sJR (sKnot b n A) A) 22 0).toNat by omega, ← hk9.2.2.1])
                have hadv := gT_adv hG hq254 (by omega)
                refine zs_iconst (pc := 257) C dX9_signs_257 (by decide) ?_
                exact zs_zret (pc := 258) C hr hlk dX9_signs_258 (by omega) ⟨by repeat (first | exact zsm_rf | assumption | refine zsm_C (by decide) ?_ | refine zsm_I (by decide) ?_ | refine zsm_J ?_ | refine zsm_c (by assumption) (by decide) ?_), (by with_reducible repeat (first | exact LJr_rf | assumption | refine LJr_I (h := 0) (by decide) (Nat.zero_le _) ?_ | refine LJr_I (h := 3) (by decide) (by omega) ?_ | refine LJr_I (h := 4) (by decide) (by omega) ?_ | refine LJr_I (h := 5) (by decide) (by omega) ?_ | refine LJr_I (h := 7) (by decide) (by omega) ?_ | refine LJr_I (h := 20) (by decide) (by omega) ?_ | refine LJr_I (h := 64) (by decide) (by omega) ?_ | refine LJr_c (by assumption) ?_)), ⟨by omega, (by repeat (first | assumption | refine MI_I (by decide) ?_ | refine MI_J ?_ | refine MI_sm (by assumption) (by decide) ?_ | refine MI_sn (by assumption) (by decide) ?_)), fun _ => ⟨hPI, hadv, hgX, hGo⟩, fun q => by omega⟩⟩
            · skip
              refine zs_iconst (pc := 224) C dX9_signs_224 (by decide) ?_
              exact zs_zret (pc := 225) C hr hlk dX9_signs_225 (by omega) ⟨by repeat (first | exact zsm_rf | assumption | refine zsm_C (by decide) ?_ | refine zsm_I (by decide) ?_ | refine zsm_J ?_ | refine zsm_c (by assumption) (by decide) ?_), (by with_reducible repeat (first | exact LJr_rf | assumption | refine LJr_I (h := 0) (by decide) (Nat.zero_le _) ?_ | refine LJr_I (h := 3) (by decide) (by omega) ?_ | refine LJr_I (h := 4) (by decide) (by omega) ?_ | refine LJr_I (h := 5) (by decide) (by omega) ?_ | refine LJr_I (h := 7) (by decide) (by omega) ?_ | refine LJr_I (h := 20) (by decide) (by omega) ?_ | refine LJr_I (h := 64) (by decide) (by omega) ?_ | refine LJr_c (by assumption) ?_)), ⟨by omega, (by repeat (first | assumption | refine MI_I (by decide) ?_ | refine MI_J ?_ | refine MI_sm (by assumption) (by decide) ?_ | refine MI_sn (by assumption) (by decide) ?_)), fun q => by omega, fun _ => (by have hF : sBehind b n A = sFail b n 2 (sJR (sKnot b n A) A) := (hS.trans (sJoint_64 h217_1 (by have q9 := (hq218.2.2 (by omega)).1; omega))); rw [hF, sSemi_ne (sFail_f (by decide))]; exact ⟨FT_fail j1 (by decide) (hq218.2.2 (by omega)).2.2.1 (by rw [(hq218.2.2 (by omega)).2.2.2, jp, ← g10]; omega), Or.inr (sFail_f (by decide))⟩)⟩⟩
          refine zSip1 (pc := 179) C dX9_signs_179 s_X9_316 (c_X9_rank hX ) (by decide) ⟨Nat.zero_le _, Nat.zero_le _⟩ (Nat.le_of_ble_eq_true rfl) (fun x179 l179 u179 hp179 => ?_)
          have hq179 := hp179
          have y179 := rank_bnd hk9.2.2.1 (by omega) hq179
          clear hq179 hp179
          refine zs_iconst (pc := 182) C dX9_signs_182 (by decide) ?_
          refine zs_icmp_ne (tgt := 217) (pc := 183) C dX9_signs_183 (by decide) (fun h183 => ?_) (fun h183 => ?_)
          · skip
            exact zs_wk (J217 _ rfl (by omega)) (zwk_s rfl (zwk_s rfl zwk_0))
          · skip
            refine zs_aload_n (pc := 186) C dX9_signs_186 rfl ?_
            refine zs_geti (r := 1042) (pc := 187) C dX9_signs_187 w_X9_313 f_10_42 rfl (r_1042 0) (fun v187 e187 l187 u187 => ?_)
            refine zs_if_le (tgt := 217) (pc := 190) C dX9_signs_190 (by decide) (fun h190 => ?_) (fun h190 => ?_)
            · skip
              exact zs_wk (J217 _ rfl (by omega)) (zwk_s rfl (zwk_s rfl zwk_0))
            · skip
              refine zs_aload_n (pc := 193) C dX9_signs_193 rfl ?_
              refine zs_getf (pc := 194) C dX9_signs_194 w_X9_75 f_10_40 (by decide) ?_
              refine zs_aload_n (pc := 197) C dX9_signs_197 rfl ?_
              refine zs_geti (r := 1042) (pc := 198) C dX9_signs_198 w_X9_313 f_10_42 rfl (r_1042 0) (fun v198 e198 l198 u198 => ?_)
              refine zs_iconst (pc := 201) C dX9_signs_201 (by decide) ?_
              first | refine zs_isub (pc := 202) C dX9_signs_202 (by omega) ?_ | refine zs_isubF (pc := 202) C dX9_signs_202 (fun z202 hz2021 hz2022 => ?_)
              refine zs_iald (r := 2077) (pc := 203) C dX9_signs_203 a_77 (by decide) (by omega) rfl (r_2077 _) (fun v203 e203 l203 u203 => ?_)
              have w203 := hE175.2.2.2.2.2.1 ((sJR (sKnot b n A) A) 22 0 - 1).toNat (by omega)
              rw [show ((sJR (sKnot b n A) A) 22 0 - 1).toNat = v198.toNat - 1 by omega] at w203
              have w204 : v203 = G175.1 2077 (Γ.2.1 w 40) (v198.toNat - 1) := by rw [e203, show (v198 - 1).toNat = v198.toNat - 1 by omega]
              rw [← w204, show v198.toNat - 1 = ((sJR (sKnot b n A) A) 22 0 - 1).toNat by omega] at w203
              refine zSip1 (pc := 204) C dX9_signs_204 s_X9_316 (c_X9_rank hX ) (by decide) ⟨Nat.zero_le _, Nat.zero_le _⟩ (Nat.le_of_ble_eq_true rfl) (fun x204 l204 u204 hp204 => ?_)
              have hq204 := hp204
              have y204 := rank_bnd w203.1 w203.2 hq204
              clear hq204 hp204
              refine zs_iconst (pc := 207) C dX9_signs_207 (by decide) ?_
              refine zs_icmp_ne (tgt := 217) (pc := 208) C dX9_signs_208 (by decide) (fun h208 => ?_) (fun h208 => ?_)
              · skip
                exact zs_wk (J217 _ rfl (by omega)) (zwk_s rfl (zwk_s rfl zwk_0))
              · skip
                refine zs_aload_n (pc := 211) C dX9_signs_211 rfl ?_
                refine zs_iconst (pc := 212) C dX9_signs_212 (by decide) ?_
                refine zVi1 (pc := 213) C dX9_signs_213 v_X9_220 (c_X9_wrongY hX ) (by decide) (by decide) ⟨Nat.zero_le _, Nat.zero_le _⟩ (Nat.le_of_ble_eq_true rfl) (fun x213 G213 l213 u213 hp213 => ?_)
                obtain ⟨hz213, lo213, hq213⟩ := hp213
                have tr213_1042 := zsm_at hz213 1042 w 0 (by decide)
                try simp only [zuI_1, zuI_2, zuJ_1, zuJ_2, zuJ_3, zuP_1, zuP_2, zuP_3, zuC_1, zuC_2, reduceIte, Nat.reduceEqDiff, false_and, and_false, true_and, and_true, and_self, or_true, true_or, or_false, false_or] at tr213_1042
                have tr213_1043 := zsm_at hz213 1043 w 0 (by decide)
                try simp only [zuI_1, zuI_2, zuJ_1, zuJ_2, zuJ_3, zuP_1, zuP_2, zuP_3, zuC_1, zuC_2, reduceIte, Nat.reduceEqDiff, false_and, and_false, true_and, and_true, and_self, or_true, true_or, or_false, false_or] at tr213_1043
                have tr213_1044 := zsm_at hz213 1044 w 0 (by decide)
                try simp only [zuI_1, zuI_2, zuJ_1, zuJ_2, zuJ_3, zuP_1, zuP_2, zuP_3, zuC_1, zuC_2, reduceIte, Nat.reduceEqDiff, false_and, and_false, true_and, and_true, and_self, or_true, true_or, or_false, false_or] at tr213_1044
                have tr213_1045 := zsm_at hz213 1045 w 0 (by decide)
                try simp only [zuI_1, zuI_2, zuJ_1, zuJ_2, zuJ_3, zuP_1, zuP_2, zuP_3, zuC_1, zuC_2, reduceIte, Nat.reduceEqDiff, false_and, and_false, true_and, and_true, and_self, or_true, true_or, or_false, false_or] at tr213_1045
                have tr213_1046 := zsm_at hz213 1046 w 0 (by decide)
                try simp only [zuI_1, zuI_2, zuJ_1, zuJ_2, zuJ_3, zuP_1, zuP_2, zuP_3, zuC_1, zuC_2, reduceIte, Nat.reduceEqDiff, false_and, and_false, true_and, and_true, and_self, or_true, true_or, or_false, false_or] at tr213_1046
                have tr213_1021 := zsm_at hz213 1021 w 0 (by decide)
                try simp only [zuI_1, zuI_2, zuJ_1, zuJ_2, zuJ_3, zuP_1, zuP_2, zuP_3, zuC_1, zuC_2, reduceIte, Nat.reduceEqDiff, false_and, and_false, true_and, and_true, and_self, or_true, true_or, or_false, false_or] at tr213_1021
                have tr213_1007 := zsm_at hz213 1007 w 0 (by decide)
                try simp only [zuI_1, zuI_2, zuJ_1, zuJ_2, zuJ_3, zuP_1, zuP_2, zuP_3, zuC_1, zuC_2, reduceIte, Nat.reduceEqDiff, false_and, and_false, true_and, and_true, and_self, or_true, true_or, or_false, false_or] at tr213_1007
                have tr213_1010 := zsm_at hz213 1010 w 0 (by decide)
                try simp only [zuI_1, zuI_2, zuJ_1, zuJ_2, zuJ_3, zuP_1, zuP_2, zuP_3, zuC_1, zuC_2, reduceIte, Nat.reduceEqDiff, false_and, and_false, true_and, and_true, and_self, or_true, true_or, or_false, false_or] at tr213_1010
                have tr213_1006 := zsm_at hz213 1006 w 0 (by decide)
                try simp only [zuI_1, zuI_2, zuJ_1, zuJ_2, zuJ_3, zuP_1, zuP_2, zuP_3, zuC_1, zuC_2, reduceIte, Nat.reduceEqDiff, false_and, and_false, true_and, and_true, and_self, or_true, true_or, or_false, false_or] at tr213_1006
                have tr213_1008 := zsm_at hz213 1008 w 0 (by decide)
                try simp only [zuI_1, zuI_2, zuJ_1, zuJ_2, zuJ_3, zuP_1, zuP_2, zuP_3, zuC_1, zuC_2, reduceIte, Nat.reduceEqDiff, false_and, and_false, true_and, and_true, and_self, or_true, true_or, or_false, false_or] at tr213_1008
                have tr213_1009 := zsm_at hz213 1009 w 0 (by decide)
                try simp only [zuI_1, zuI_2, zuJ_1, zuJ_2, zuJ_3, zuP_1, zuP_2, zuP_3, zuC_1, zuC_2, reduceIte, Nat.reduceEqDiff, false_and, and_false, true_and, and_true, and_self, or_true, true_or, or_false, false_or] at tr213_1009
                exact zs_zret (pc := 216) C hr hlk dX9_signs_216 (by omega) ⟨by repeat (first | exact zsm_rf | assumption | refine zsm_C (by decide) ?_ | refine zsm_I (by decide) ?_ | refine zsm_J ?_ | refine zsm_c (by assumption) (by decide) ?_), (by with_reducible repeat (first | exact LJr_rf | assumption | refine LJr_I (h := 0) (by decide) (Nat.zero_le _) ?_ | refine LJr_I (h := 3) (by decide) (by omega) ?_ | refine LJr_I (h := 4) (by decide) (by omega) ?_ | refine LJr_I (h := 5) (by decide) (by omega) ?_ | refine LJr_I (h := 7) (by decide) (by omega) ?_ | refine LJr_I (h := 20) (by decide) (by omega) ?_ | refine LJr_I (h := 64) (by decide) (by omega) ?_ | refine LJr_c (by assumption) ?_)), ⟨by omega, (by repeat (first | assumption | refine MI_I (by decide) ?_ | refine MI_J ?_ | refine MI_sm (by assumption) (by decide) ?_ | refine MI_sn (by assumption) (by decide) ?_)), fun q => by omega, fun _ => (by have hF : sBehind b n A = sFail b n 1 (sJR (sKnot b n A) A) := (hS.trans (sJoint_bad ⟨by omega, by omega, by omega⟩)); rw [hF, sSemi_ne (sFail_f (by decide))]; exact ⟨FT_fail j1 (by decide) hq213.2.1 (by rw [hq213.2.2, jp, ← g10]; omega), Or.inr (sFail_f (by decide))⟩)⟩⟩
        refine zs_iload_n (pc := 159) C dX9_signs_159 rfl ?_
        refine zSip1 (pc := 160) C dX9_signs_160 s_X9_316 (c_X9_rank hX ) (by decide) ⟨Nat.zero_le _, Nat.zero_le _⟩ (Nat.le_of_ble_eq_true rfl) (fun x160 l160 u160 hp160 => ?_)
        have hq160 := hp160
        have y160 := rank_bnd hk9.2.2.1 (by omega) hq160
        clear hq160 hp160
        refine zs_iconst (pc := 163) C dX9_signs_163 (by decide) ?_
        refine zs_icmp_ne (tgt := 171) (pc := 164) C dX9_signs_164 (by decide) (fun h164 => ?_) (fun h164 => ?_)
        · skip
          refine zs_iload_n (pc := 171) C dX9_signs_171 rfl ?_
          refine zSip1 (pc := 172) C dX9_signs_172 s_X9_316 (c_X9_rank hX ) (by decide) ⟨Nat.zero_le _, Nat.zero_le _⟩ (Nat.le_of_ble_eq_true rfl) (fun x172 l172 u172 hp172 => ?_)
          have hq172 := hp172
          have y172 := rank_bnd hk9.2.2.1 (by omega) hq172
          clear hq172 hp172
          exact zs_wk (J175 _ (by first | (rw [if_pos (by omega)]; omega) | (rw [if_neg (by omega)]; omega))) (zwk_s rfl (zwk_s rfl zwk_0))
        · skip
          refine zs_iconst (pc := 167) C dX9_signs_167 (by decide) ?_
          refine zs_goto (tgt := 175) (pc := 168) C dX9_signs_168 (by decide) ?_
          exact zs_wk (J175 _ (by first | (rw [if_pos (by omega)]; omega) | (rw [if_neg (by omega)]; omega))) (zwk_s rfl (zwk_s rfl zwk_0))
      · skip
        refine zs_aload_n (pc := 152) C dX9_signs_152 rfl ?_
        refine zs_iconst (pc := 153) C dX9_signs_153 (by decide) ?_
        refine zVi1 (pc := 154) C dX9_signs_154 v_X9_220 (c_X9_wrongY hX ) (by decide) (by decide) ⟨Nat.zero_le _, Nat.zero_le _⟩ (Nat.le_of_ble_eq_true rfl) (fun x154 G154 l154 u154 hp154 => ?_)
        obtain ⟨hz154, lo154, hq154⟩ := hp154
        have tr154_1042 := zsm_at hz154 1042 w 0 (by decide)
        try simp only [zuI_1, zuI_2, zuJ_1, zuJ_2, zuJ_3, zuP_1, zuP_2, zuP_3, zuC_1, zuC_2, reduceIte, Nat.reduceEqDiff, false_and, and_false, true_and, and_true, and_self, or_true, true_or, or_false, false_or] at tr154_1042
        have tr154_1043 := zsm_at hz154 1043 w 0 (by decide)
        try simp only [zuI_1, zuI_2, zuJ_1, zuJ_2, zuJ_3, zuP_1, zuP_2, zuP_3, zuC_1, zuC_2, reduceIte, Nat.reduceEqDiff, false_and, and_false, true_and, and_true, and_self, or_true, true_or, or_false, false_or] at tr154_1043
        have tr154_1044 := zsm_at hz154 1044 w 0 (by decide)
        try simp only [zuI_1, zuI_2, zuJ_1, zuJ_2, zuJ_3, zuP_1, zuP_2, zuP_3, zuC_1, zuC_2, reduceIte, Nat.reduceEqDiff, false_and, and_false, true_and, and_true, and_self, or_true, true_or, or_false, false_or] at tr154_1044
        have tr154_1045 := zsm_at hz154 1045 w 0 (by decide)
        try simp only [zuI_1, zuI_2, zuJ_1, zuJ_2, zuJ_3, zuP_1, zuP_2, zuP_3, zuC_1, zuC_2, reduceIte, Nat.reduceEqDiff, false_and, and_false, true_and, and_true, and_self, or_true, true_or, or_false, false_or] at tr154_1045
        have tr154_1046 := zsm_at hz154 1046 w 0 (by decide)
        try simp only [zuI_1, zuI_2, zuJ_1, zuJ_2, zuJ_3, zuP_1, zuP_2, zuP_3, zuC_1, zuC_2, reduceIte, Nat.reduceEqDiff, false_and, and_false, true_and, and_true, and_self, or_true, true_or, or_false, false_or] at tr154_1046
        have tr154_1021 := zsm_at hz154 1021 w 0 (by decide)
        try simp only [zuI_1, zuI_2, zuJ_1, zuJ_2, zuJ_3, zuP_1, zuP_2, zuP_3, zuC_1, zuC_2, reduceIte, Nat.reduceEqDiff, false_and, and_false, true_and, and_true, and_self, or_true, true_or, or_false, false_or] at tr154_1021
        have tr154_1007 := zsm_at hz154 1007 w 0 (by decide)
        try simp only [zuI_1, zuI_2, zuJ_1, zuJ_2, zuJ_3, zuP_1, zuP_2, zuP_3, zuC_1, zuC_2, reduceIte, Nat.reduceEqDiff, false_and, and_false, true_and, and_true, and_self, or_true, true_or, or_false, false_or] at tr154_1007
        have tr154_1010 := zsm_at hz154 1010 w 0 (by decide)
        try simp only [zuI_1, zuI_2, zuJ_1, zuJ_2, zuJ_3, zuP_1, zuP_2, zuP_3, zuC_1, zuC_2, reduceIte, Nat.reduceEqDiff, false_and, and_false, true_and, and_true, and_self, or_true, true_or, or_false, false_or] at tr154_1010
        have tr154_1006 := zsm_at hz154 1006 w 0 (by decide)
        try simp only [zuI_1, zuI_2, zuJ_1, zuJ_2, zuJ_3, zuP_1, zuP_2, zuP_3, zuC_1, zuC_2, reduceIte, Nat.reduceEqDiff, false_and, and_false, true_and, and_true, and_self, or_true, true_or, or_false, false_or] at tr154_1006
        have tr154_1008 := zsm_at hz154 1008 w 0 (by decide)
        try simp only [zuI_1, zuI_2, zuJ_1, zuJ_2, zuJ_3, zuP_1, zuP_2, zuP_3, zuC_1, zuC_2, reduceIte, Nat.reduceEqDiff, false_and, and_false, true_and, and_true, and_self, or_true, true_or, or_false, false_or] at tr154_1008
        have tr154_1009 := zsm_at hz154 1009 w 0 (by decide)
        try simp only [zuI_1, zuI_2, zuJ_1, zuJ_2, zuJ_3, zuP_1, zuP_2, zuP_3, zuC_1, zuC_2, reduceIte, Nat.reduceEqDiff, false_and, and_false, true_and, and_true, and_self, or_true, true_or, or_false, false_or] at tr154_1009
        exact zs_zret (pc := 157) C hr hlk dX9_signs_157 (by omega) ⟨by repeat (first | exact zsm_rf | assumption | refine zsm_C (by decide) ?_ | refine zsm_I (by decide) ?_ | refine zsm_J ?_ | refine zsm_c (by assumption) (by decide) ?_), (by with_reducible repeat (first | exact LJr_rf | assumption | refine LJr_I (h := 0) (by decide) (Nat.zero_le _) ?_ | refine LJr_I (h := 3) (by decide) (by omega) ?_ | refine LJr_I (h := 4) (by decide) (by omega) ?_ | refine LJr_I (h := 5) (by decide) (by omega) ?_ | refine LJr_I (h := 7) (by decide) (by omega) ?_ | refine LJr_I (h := 20) (by decide) (by omega) ?_ | refine LJr_I (h := 64) (by decide) (by omega) ?_ | refine LJr_c (by assumption) ?_)), ⟨by omega, (by repeat (first | assumption | refine MI_I (by decide) ?_ | refine MI_J ?_ | refine MI_sm (by assumption) (by decide) ?_ | refine MI_sn (by assumption) (by decide) ?_)), fun q => by omega, fun _ => (by
              have hn1 : sKnot b n A = -1 := (by rcases h147_0 with q | q; exact q.2; exact absurd q.1 (by omega))
              by_cases q : A 23 0 = 0
              · have hF := sBeh_0 hn1 q
                have hF2 : sSemi b n A = sFail b n 1 A := if_neg (fun q2 => hs ⟨q2.1, q2.2, q⟩)
                rw [hF.1, hF2]
                exact ⟨FT_fail h0 (by decide) hq154.2.1 (hq154.2.2.trans g10), Or.inl hF.2⟩
              · have hF := sBeh_1 hn1 (by omega) (fun q2 => h47_1 ⟨q2.1, q2.2, by omega⟩)
                rw [hF, sSemi_ne (sFail_f (by decide))]
                exact ⟨FT_fail h0 (by decide) hq154.2.1 (hq154.2.2.trans g10), Or.inr (sFail_f (by decide))⟩)⟩⟩
    refine zs_bipush (pc := 48) C dX9_signs_48 (by decide) (by decide) ?_
    clear p1 p2 p3 p4 k3 k0
    refine zVip1 (pc := 50) C dX9_signs_50 v_X9_288 (c_X9_isKeyG hX ) (by decide) (by decide) ⟨Nat.zero_le _, Nat.zero_le _⟩ (Nat.le_of_ble_eq_true rfl) (fun x50 l50 u50 hp50 => ?_)
    have hq50 := hp50
    have z50 := hq50.2.trans (gT_kw hG (k := 14) (v := 15) (by omega))
    have b50 := hq50.1
    clear hq50 hp50
    refine zs_if_eq (tgt := 60) (pc := 53) C dX9_signs_53 (by decide) (fun h53 => ?_) (fun h53 => ?_)
    · skip
      have r50 : ¬ (tK b n A = 2 ∧ tV b n A = 15) := fun q => (by have q2 := z50.mpr q; omega)
      clear z50 b50
      refine zs_aload_n (pc := 60) C dX9_signs_60 rfl ?_
      refine zs_bipush (pc := 61) C dX9_signs_61 (by decide) (by decide) ?_
      refine zVip1 (pc := 63) C dX9_signs_63 v_X9_288 (c_X9_isKeyG hX ) (by decide) (by decide) ⟨Nat.zero_le _, Nat.zero_le _⟩ (Nat.le_of_ble_eq_true rfl) (fun x63 l63 u63 hp63 => ?_)
      have hq63 := hp63
      have z63 := hq63.2.trans (gT_kw hG (k := 15) (v := 14) (by omega))
      have b63 := hq63.1
      clear hq63 hp63
      refine zs_if_eq (tgt := 73) (pc := 66) C dX9_signs_66 (by decide) (fun h66 => ?_) (fun h66 => ?_)
      · skip
        have r63 : ¬ (tK b n A = 2 ∧ tV b n A = 14) := fun q => (by have q2 := z63.mpr q; omega)
        clear z63 b63
        refine zs_aload_n (pc := 73) C dX9_signs_73 rfl ?_
        refine zs_geti (r := 1008) (pc := 74) C dX9_signs_74 w_X9_196 f_10_8 rfl (r_1008 0) (fun v74 e74 l74 u74 => ?_)
        refine zs_iconst (pc := 77) C dX9_signs_77 (by decide) ?_
        have gc := gT_cmp hG
        refine zs_icmp_ne (tgt := 90) (pc := 78) C dX9_signs_78 (by decide) (fun h78 => ?_) (fun h78 => ?_)
        · skip
          have r78 : ¬ (tK b n A = 4 ∧ 5 ≤ tV b n A ∧ tV b n A ≤ 10) := fun q => (by have q2 := gc.1.mpr q; omega)
          clear gc
          refine zs_aload_n (pc := 90) C dX9_signs_90 rfl ?_
          refine zs_bipush (pc := 91) C dX9_signs_91 (by decide) (by decide) ?_
          refine zVip1 (pc := 93) C dX9_signs_93 v_X9_233 (c_X9_isSignG hX ) (by decide) (by decide) ⟨Nat.zero_le _, Nat.zero_le _⟩ (Nat.le_of_ble_eq_true rfl) (fun x93 l93 u93 hp93 => ?_)
          have hq93 := hp93
          have z93 := hq93.2.trans (gT_sig hG (c := 43) (s := 11) (by omega))
          have b93 := hq93.1
          clear hq93 hp93
          refine zs_if_eq (tgt := 104) (pc := 96) C dX9_signs_96 (by decide) (fun h96 => ?_) (fun h96 => ?_)
          · skip
            have r93 : ¬ (tK b n A = 4 ∧ tV b n A = 11) := fun q => (by have q2 := z93.mpr q; omega)
            clear z93 b93
            refine zs_aload_n (pc := 104) C dX9_signs_104 rfl ?_
            refine zs_bipush (pc := 105) C dX9_signs_105 (by decide) (by decide) ?_
            refine zVip1 (pc := 107) C dX9_signs_107 v_X9_233 (c_X9_isSignG hX ) (by decide) (by decide) ⟨Nat.zero_le _, Nat.zero_le _⟩ (Nat.le_of_ble_eq_true rfl) (fun x107 l107 u107 hp107 => ?_)
            have hq107 := hp107
            have z107 := hq107.2.trans (gT_sig hG (c := 45) (s := 12) (by omega))
            have b107 := hq107.1
            clear hq107 hp107
            refine zs_if_eq (tgt := 118) (pc := 110) C dX9_signs_110 (by decide) (fun h110 => ?_) (fun h110 => ?_)
            · skip
              have r107 : ¬ (tK b n A = 4 ∧ tV b n A = 12) := fun q => (by have q2 := z107.mpr q; omega)
              clear z107 b107
              refine zs_aload_n (pc := 118) C dX9_signs_118 rfl ?_
              refine zs_bipush (pc := 119) C dX9_signs_119 (by decide) (by decide) ?_
              refine zVip1 (pc := 121) C dX9_signs_121 v_X9_233 (c_X9_isSignG hX ) (by decide) (by decide) ⟨Nat.zero_le _, Nat.zero_le _⟩ (Nat.le_of_ble_eq_true rfl) (fun x121 l121 u121 hp121 => ?_)
              have hq121 := hp121
              have z121 := hq121.2.trans (gT_sig hG (c := 42) (s := 13) (by omega))
              have b121 := hq121.1
              clear hq121 hp121
              refine zs_if_eq (tgt := 132) (pc := 124) C dX9_signs_124 (by decide) (fun h124 => ?_) (fun h124 => ?_)
              · skip
                have r121 : ¬ (tK b n A = 4 ∧ tV b n A = 13) := fun q => (by have q2 := z121.mpr q; omega)
                clear z121 b121
                refine zs_aload_n (pc := 132) C dX9_signs_132 rfl ?_
                refine zs_bipush (pc := 133) C dX9_signs_133 (by decide) (by decide) ?_
                refine zVip1 (pc := 135) C dX9_signs_135 v_X9_233 (c_X9_isSignG hX ) (by decide) (by decide) ⟨Nat.zero_le _, Nat.zero_le _⟩ (Nat.le_of_ble_eq_true rfl) (fun x135 l135 u135 hp135 => ?_)
                have hq135 := hp135
                have z135 := hq135.2.trans (gT_sig hG (c := 47) (s := 14) (by omega))
                have b135 := hq135.1
                clear hq135 hp135
                refine zs_if_eq (tgt := 146) (pc := 138) C dX9_signs_138 (by decide) (fun h138 => ?_) (fun h138 => ?_)
                · skip
                  have r135 : ¬ (tK b n A = 4 ∧ tV b n A = 14) := fun q => (by have q2 := z135.mpr q; omega)
                  clear z135 b135
                  refine zs_iconst (pc := 146) C dX9_signs_146 (by decide) ?_
                  exact zs_wk (J147 _ (by first | exact (Or.inr (by have q0 : (sKnot b n A) = 3 := (sKnot_w r50.1).2 r50.2; rw [q0]; refine ⟨by omega, by omega, ?_, by omega, by omega, by omega, by omega⟩; first | rfl | (rw [rk_id (by omega)]; omega))) | exact (Or.inr (by have q0 : (sKnot b n A) = 2 := (sKnot_w r63.1).1 r63.2; rw [q0]; refine ⟨by omega, by omega, ?_, by omega, by omega, by omega, by omega⟩; first | rfl | (rw [rk_id (by omega)]; omega))) | exact (Or.inr (by have q0 : (sKnot b n A) = tV b n A := sKnot_s (by omega); rw [q0]; refine ⟨by omega, by omega, ?_, by omega, by omega, by omega, by omega⟩; first | rfl | (rw [rk_id (by omega)]; omega))) | exact Or.inl ⟨rfl, sKnot_n (by omega) (by omega) (by omega)⟩)) (zwk_s rfl (zwk_n zwk_0))
                · skip
                  have r135 : tK b n A = 4 ∧ tV b n A = 14 := z135.mp (by omega)
                  clear z135 b135
                  refine zs_bipush (pc := 141) C dX9_signs_141 (by decide) (by decide) ?_
                  refine zs_goto (tgt := 147) (pc := 143) C dX9_signs_143 (by decide) ?_
                  exact zs_wk (J147 _ (by first | exact (Or.inr (by have q0 : (sKnot b n A) = 3 := (sKnot_w r50.1).2 r50.2; rw [q0]; refine ⟨by omega, by omega, ?_, by omega, by omega, by omega, by omega⟩; first | rfl | (rw [rk_id (by omega)]; omega))) | exact (Or.inr (by have q0 : (sKnot b n A) = 2 := (sKnot_w r63.1).1 r63.2; rw [q0]; refine ⟨by omega, by omega, ?_, by omega, by omega, by omega, by omega⟩; first | rfl | (rw [rk_id (by omega)]; omega))) | exact (Or.inr (by have q0 : (sKnot b n A) = tV b n A := sKnot_s (by omega); rw [q0]; refine ⟨by omega, by omega, ?_, by omega, by omega, by omega, by omega⟩; first | rfl | (rw [rk_id (by omega)]; omega))) | exact Or.inl ⟨rfl, sKnot_n (by omega) (by omega) (by omega)⟩)) (zwk_s rfl (zwk_n zwk_0))
              · skip
                have r121 : tK b n A = 4 ∧ tV b n A = 13 := z121.mp (by omega)
                clear z121 b121
                refine zs_bipush (pc := 127) C dX9_signs_127 (by decide) (by decide) ?_
                refine zs_goto (tgt := 147) (pc := 129) C dX9_signs_129 (by decide) ?_
                exact zs_wk (J147 _ (by first | exact (Or.inr (by have q0 : (sKnot b n A) = 3 := (sKnot_w r50.1).2 r50.2; rw [q0]; refine ⟨by omega, by omega, ?_, by omega, by omega, by omega, by omega⟩; first | rfl | (rw [rk_id (by omega)]; omega))) | exact (Or.inr (by have q0 : (sKnot b n A) = 2 := (sKnot_w r63.1).1 r63.2; rw [q0]; refine ⟨by omega, by omega, ?_, by omega, by omega, by omega, by omega⟩; first | rfl | (rw [rk_id (by omega)]; omega))) | exact (Or.inr (by have q0 : (sKnot b n A) = tV b n A := sKnot_s (by omega); rw [q0]; refine ⟨by omega, by omega, ?_, by omega, by omega, by omega, by omega⟩; first | rfl | (rw [rk_id (by omega)]; omega))) | exact Or.inl ⟨rfl, sKnot_n (by omega) (by omega) (by omega)⟩)) (zwk_s rfl (zwk_n zwk_0))
            · skip
              have r107 : tK b n A = 4 ∧ tV b n A = 12 := z107.mp (by omega)
              clear z107 b107
              refine zs_bipush (pc := 113) C dX9_signs_113 (by decide) (by decide) ?_
              refine zs_goto (tgt := 147) (pc := 115) C dX9_signs_115 (by decide) ?_
              exact zs_wk (J147 _ (by first | exact (Or.inr (by have q0 : (sKnot b n A) = 3 := (sKnot_w r50.1).2 r50.2; rw [q0]; refine ⟨by omega, by omega, ?_, by omega, by omega, by omega, by omega⟩; first | rfl | (rw [rk_id (by omega)]; omega))) | exact (Or.inr (by have q0 : (sKnot b n A) = 2 := (sKnot_w r63.1).1 r63.2; rw [q0]; refine ⟨by omega, by omega, ?_, by omega, by omega, by omega, by omega⟩; first | rfl | (rw [rk_id (by omega)]; omega))) | exact (Or.inr (by have q0 : (sKnot b n A) = tV b n A := sKnot_s (by omega); rw [q0]; refine ⟨by omega, by omega, ?_, by omega, by omega, by omega, by omega⟩; first | rfl | (rw [rk_id (by omega)]; omega))) | exact Or.inl ⟨rfl, sKnot_n (by omega) (by omega) (by omega)⟩)) (zwk_s rfl (zwk_n zwk_0))
          · skip
            have r93 : tK b n A = 4 ∧ tV b n A = 11 := z93.mp (by omega)
            clear z93 b93
            refine zs_bipush (pc := 99) C dX9_signs_99 (by decide) (by decide) ?_
            refine zs_goto (tgt := 147) (pc := 101) C dX9_signs_101 (by decide) ?_
            exact zs_wk (J147 _ (by first | exact (Or.inr (by have q0 : (sKnot b n A) = 3 := (sKnot_w r50.1).2 r50.2; rw [q0]; refine ⟨by omega, by omega, ?_, by omega, by omega, by omega, by omega⟩; first | rfl | (rw [rk_id (by omega)]; omega))) | exact (Or.inr (by have q0 : (sKnot b n A) = 2 := (sKnot_w r63.1).1 r63.2; rw [q0]; refine ⟨by omega, by omega, ?_, by omega, by omega, by omega, by omega⟩; first | rfl | (rw [rk_id (by omega)]; omega))) | exact (Or.inr (by have q0 : (sKnot b n A) = tV b n A := sKnot_s (by omega); rw [q0]; refine ⟨by omega, by omega, ?_, by omega, by omega, by omega, by omega⟩; first | rfl | (rw [rk_id (by omega)]; omega))) | exact Or.inl ⟨rfl, sKnot_n (by omega) (by omega) (by omega)⟩)) (zwk_s rfl (zwk_n zwk_0))
        · skip
          have r78 : tK b n A = 4 ∧ 5 ≤ tV b n A ∧ tV b n A ≤ 10 := gc.1.mp (by omega)
          have r79 := gc.2 (by omega)
          clear gc
          refine zs_iconst (pc := 81) C dX9_signs_81 (by decide) ?_
          refine zs_aload_n (pc := 82) C dX9_signs_82 rfl ?_
          refine zs_geti (r := 1009) (pc := 83) C dX9_signs_83 w_X9_207 f_10_9 rfl (r_1009 0) (fun v83 e83 l83 u83 => ?_)
          first | refine zs_iadd (pc := 86) C dX9_signs_86 (by omega) ?_ | refine zs_iaddF (pc := 86) C dX9_signs_86 (fun z86 hz861 hz862 => ?_)
          refine zs_goto (tgt := 147) (pc := 87) C dX9_signs_87 (by decide) ?_
          exact zs_wk (J147 _ (by first | exact (Or.inr (by have q0 : (sKnot b n A) = 3 := (sKnot_w r50.1).2 r50.2; rw [q0]; refine ⟨by omega, by omega, ?_, by omega, by omega, by omega, by omega⟩; first | rfl | (rw [rk_id (by omega)]; omega))) | exact (Or.inr (by have q0 : (sKnot b n A) = 2 := (sKnot_w r63.1).1 r63.2; rw [q0]; refine ⟨by omega, by omega, ?_, by omega, by omega, by omega, by omega⟩; first | rfl | (rw [rk_id (by omega)]; omega))) | exact (Or.inr (by have q0 : (sKnot b n A) = tV b n A := sKnot_s (by omega); rw [q0]; refine ⟨by omega, by omega, ?_, by omega, by omega, by omega, by omega⟩; first | rfl | (rw [rk_id (by omega)]; omega))) | exact Or.inl ⟨rfl, sKnot_n (by omega) (by omega) (by omega)⟩)) (zwk_s rfl (zwk_n zwk_0))
      · skip
        have r63 : tK b n A = 2 ∧ tV b n A = 14 := z63.mp (by omega)
        clear z63 b63
        refine zs_iconst (pc := 69) C dX9_signs_69 (by decide) ?_
        refine zs_goto (tgt := 147) (pc := 70) C dX9_signs_70 (by decide) ?_
        exact zs_wk (J147 _ (by first | exact (Or.inr (by have q0 : (sKnot b n A) = 3 := (sKnot_w r50.1).2 r50.2; rw [q0]; refine ⟨by omega, by omega, ?_, by omega, by omega, by omega, by omega⟩; first | rfl | (rw [rk_id (by omega)]; omega))) | exact (Or.inr (by have q0 : (sKnot b n A) = 2 := (sKnot_w r63.1).1 r63.2; rw [q0]; refine ⟨by omega, by omega, ?_, by omega, by omega, by omega, by omega⟩; first | rfl | (rw [rk_id (by omega)]; omega))) | exact (Or.inr (by have q0 : (sKnot b n A) = tV b n A := sKnot_s (by omega); rw [q0]; refine ⟨by omega, by omega, ?_, by omega, by omega, by omega, by omega⟩; first | rfl | (rw [rk_id (by omega)]; omega))) | exact Or.inl ⟨rfl, sKnot_n (by omega) (by omega) (by omega)⟩)) (zwk_s rfl (zwk_n zwk_0))
    · skip
      have r50 : tK b n A = 2 ∧ tV b n A = 15 := z50.mp (by omega)
      clear z50 b50
      refine zs_iconst (pc := 56) C dX9_signs_56 (by decide) ?_
      refine zs_goto (tgt := 147) (pc := 57) C dX9_signs_57 (by decide) ?_
      exact zs_wk (J147 _ (by first | exact (Or.inr (by have q0 : (sKnot b n A) = 3 := (sKnot_w r50.1).2 r50.2; rw [q0]; refine ⟨by omega, by omega, ?_, by omega, by omega, by omega, by omega⟩; first | rfl | (rw [rk_id (by omega)]; omega))) | exact (Or.inr (by have q0 : (sKnot b n A) = 2 := (sKnot_w r63.1).1 r63.2; rw [q0]; refine ⟨by omega, by omega, ?_, by omega, by omega, by omega, by omega⟩; first | rfl | (rw [rk_id (by omega)]; omega))) | exact (Or.inr (by have q0 : (sKnot b n A) = tV b n A := sKnot_s (by omega); rw [q0]; refine ⟨by omega, by omega, ?_, by omega, by omega, by omega, by omega⟩; first | rfl | (rw [rk_id (by omega)]; omega))) | exact Or.inl ⟨rfl, sKnot_n (by omega) (by omega) (by omega)⟩)) (zwk_s rfl (zwk_n zwk_0))
  refine zs_if_eq (tgt := 47) (pc := 6) C dX9_signs_6 (by decide) (fun h6 => ?_) (fun h6 => ?_)
  · skip
    have r3 : ¬ (tK b n A = 4 ∧ tV b n A = 16) := fun q => (by have q2 := z3.mpr q; omega)
    clear z3 b3
    exact zs_wk (J47 _ rfl (fun q => by first | exact r3 ⟨q.1, q.2.1⟩ | omega)) (zwk_s rfl (zwk_n zwk_0))
  · skip
    have r3 : tK b n A = 4 ∧ tV b n A = 16 := z3.mp (by omega)
    clear z3 b3
    refine zs_aload_n (pc := 9) C dX9_signs_9 rfl ?_
    refine zs_geti (r := 1044) (pc := 10) C dX9_signs_10 w_X9_328 f_10_44 rfl (r_1044 0) (fun v10 e10 l10 u10 => ?_)
    refine zs_if_le (tgt := 47) (pc := 13) C dX9_signs_13 (by decide) (fun h13 => ?_) (fun h13 => ?_)
    · skip
      exact zs_wk (J47 _ rfl (fun q => by first | exact r3 ⟨q.1, q.2.1⟩ | omega)) (zwk_s rfl (zwk_n zwk_0))
    · skip
      refine zs_aload_n (pc := 16) C dX9_signs_16 rfl ?_
      refine zs_iconst (pc := 17) C dX9_signs_17 (by decide) ?_
      refine zVv1 (pc := 18) C dX9_signs_18 v_X9_348 (c_X9_bindY hX (by repeat (first | assumption | refine MI_I (by decide) ?_ | refine MI_J ?_ | refine MI_sm (by assumption) (by decide) ?_ | refine MI_sn (by assumption) (by decide) ?_)) (by repeat (first | assumption | refine PI_I (by decide) ?_ | refine PI_sm (by assumption) (by decide) ?_)) (by repeat (first | assumption | refine kR_sm (by assumption) (by decide) ?_ | refine kR_I (by decide) ?_ | refine kR_J ?_)) (by repeat (first | assumption | decide | apply gE_I | apply gE_sm)) (by omega) (by omega)) (by decide) (by decide) ⟨Nat.zero_le _, Nat.zero_le _⟩ (Nat.le_of_ble_eq_true rfl) (fun G18 hp18 => ?_)
      obtain ⟨hz18, lo18, hq18⟩ := hp18
      have tr18_1044 := zsm_at hz18 1044 w 0 (by decide)
      try simp only [zuI_1, zuI_2, zuJ_1, zuJ_2, zuJ_3, zuP_1, zuP_2, zuP_3, zuC_1, zuC_2, reduceIte, Nat.reduceEqDiff, false_and, and_false, true_and, and_true, and_self, or_true, true_or, or_false, false_or] at tr18_1044
      have tr18_1045 := zsm_at hz18 1045 w 0 (by decide)
      try simp only [zuI_1, zuI_2, zuJ_1, zuJ_2, zuJ_3, zuP_1, zuP_2, zuP_3, zuC_1, zuC_2, reduceIte, Nat.reduceEqDiff, false_and, and_false, true_and, and_true, and_self, or_true, true_or, or_false, false_or] at tr18_1045
      have tr18_1046 := zsm_at hz18 1046 w 0 (by decide)
      try simp only [zuI_1, zuI_2, zuJ_1, zuJ_2, zuJ_3, zuP_1, zuP_2, zuP_3, zuC_1, zuC_2, reduceIte, Nat.reduceEqDiff, false_and, and_false, true_and, and_true, and_self, or_true, true_or, or_false, false_or] at tr18_1046
      have tr18_1007 := zsm_at hz18 1007 w 0 (by decide)
      try simp only [zuI_1, zuI_2, zuJ_1, zuJ_2, zuJ_3, zuP_1, zuP_2, zuP_3, zuC_1, zuC_2, reduceIte, Nat.reduceEqDiff, false_and, and_false, true_and, and_true, and_self, or_true, true_or, or_false, false_or] at tr18_1007
      have tr18_1010 := zsm_at hz18 1010 w 0 (by decide)
      try simp only [zuI_1, zuI_2, zuJ_1, zuJ_2, zuJ_3, zuP_1, zuP_2, zuP_3, zuC_1, zuC_2, reduceIte, Nat.reduceEqDiff, false_and, and_false, true_and, and_true, and_self, or_true, true_or, or_false, false_or] at tr18_1010
      have tr18_1006 := zsm_at hz18 1006 w 0 (by decide)
      try simp only [zuI_1, zuI_2, zuJ_1, zuJ_2, zuJ_3, zuP_1, zuP_2, zuP_3, zuC_1, zuC_2, reduceIte, Nat.reduceEqDiff, false_and, and_false, true_and, and_true, and_self, or_true, true_or, or_false, false_or] at tr18_1006
      have tr18_1008 := zsm_at hz18 1008 w 0 (by decide)
      try simp only [zuI_1, zuI_2, zuJ_1, zuJ_2, zuJ_3, zuP_1, zuP_2, zuP_3, zuC_1, zuC_2, reduceIte, Nat.reduceEqDiff, false_and, and_false, true_and, and_true, and_self, or_true, true_or, or_false, false_or] at tr18_1008
      have tr18_1009 := zsm_at hz18 1009 w 0 (by decide)
      try simp only [zuI_1, zuI_2, zuJ_1, zuJ_2, zuJ_3, zuP_1, zuP_2, zuP_3, zuC_1, zuC_2, reduceIte, Nat.reduceEqDiff, false_and, and_false, true_and, and_true, and_self, or_true, true_or, or_false, false_or] at tr18_1009
      have hMI := hq18.1
      have hPI18 := hq18.2.1
      have top := hq18.2.2.1 (by omega)
      have hK18 := hq18.2.2.2.1
      have hE18 := hq18.2.2.2.2
      have p1b := hPI18.1
      have p2b := hPI18.2.1
      have p3b := hPI18.2.2.1
      have p4b := hPI18.2.2.2
      have k3b := c3_le (G18.1 2077 (Γ.2.1 w 40)) (G18.1 1042 w 0).toNat
      have k0b := c0_le (G18.1 2077 (Γ.2.1 w 40)) (G18.1 1042 w 0).toNat
      refine zs_good (fun hGdh => ?_)
      have hbh_1042 := hGdh.1 1042 w 0
      rw [r_1042] at hbh_1042
      have c3pb := c3_pop (W := G18.1 2077 (Γ.2.1 w 40)) (n := G18.1 1042 w 0) (by omega)
      have c0pb := c0_pop (W := G18.1 2077 (Γ.2.1 w 40)) (n := G18.1 1042 w 0) (by omega)
      have c3lb := c3_le (G18.1 2077 (Γ.2.1 w 40)) (G18.1 1042 w 0 - 1).toNat
      have c0lb := c0_le (G18.1 2077 (Γ.2.1 w 40)) (G18.1 1042 w 0 - 1).toNat
      refine zs_aload_n (pc := 21) C dX9_signs_21 rfl ?_
      refine zs_dupa (pc := 22) C dX9_signs_22 ?_
      refine zs_geti (r := 1042) (pc := 23) C dX9_signs_23 w_X9_313 f_10_42 rfl (r_1042 0) (fun v23 e23 l23 u23 => ?_)
      refine zs_iconst (pc := 26) C dX9_signs_26 (by decide) ?_
      first | refine zs_isub (pc := 27) C dX9_signs_27 (by omega) ?_ | refine zs_isubF (pc := 27) C dX9_signs_27 (fun z27 hz271 hz272 => ?_)
      refine zs_puti (r := 1042) (pc := 28) C dX9_signs_28 w_X9_313 f_10_42 rfl (r_1042 0) (by omega) ?_
      refine zs_aload_n (pc := 31) C dX9_signs_31 rfl ?_
      refine zs_dupa (pc := 32) C dX9_signs_32 ?_
      refine zs_geti (r := 1044) (pc := 33) C dX9_signs_33 w_X9_328 f_10_44 rfl (r_1044 0) (fun v33 e33 l33 u33 => ?_)
      try simp only [zuI_1, zuI_2, zuJ_1, zuJ_2, zuJ_3, zuP_1, zuP_2, zuP_3, zuC_1, zuC_2, reduceIte, Nat.reduceEqDiff, false_and, and_false, true_and, and_true, and_self, or_true, true_or, or_false, false_or] at e33
      refine zs_iconst (pc := 36) C dX9_signs_36 (by decide) ?_
      first | refine zs_isub (pc := 37) C dX9_signs_37 (by omega) ?_ | refine zs_isubF (pc := 37) C dX9_signs_37 (fun z37 hz371 hz372 => ?_)
      refine zs_puti (r := 1044) (pc := 38) C dX9_signs_38 w_X9_328 f_10_44 rfl (r_1044 0) (by omega) ?_
      refine zs_aload_n (pc := 41) C dX9_signs_41 rfl ?_
      refine zVv0 (pc := 42) C dX9_signs_42 v_X9_230 (c_X9_tokenGY hX (by repeat (first | assumption | decide | apply gT_I | apply gT_sm))) (by decide) (by decide) ⟨Nat.zero_le _, Nat.zero_le _⟩ (Nat.le_of_ble_eq_true rfl) (fun G42 hp42 => ?_)
      obtain ⟨hz42, lo42, hq42⟩ := hp42
      try simp only [zuI_1, zuI_2, zuJ_1, zuJ_2, zuJ_3, zuP_1, zuP_2, zuP_3, zuC_1, zuC_2, reduceIte, Nat.reduceEqDiff, false_and, and_false, true_and, and_true, and_self, or_true, true_or, or_false, false_or] at hq42
      have tr42_1042 := zsm_at hz42 1042 w 0 (by decide)
      try simp only [zuI_1, zuI_2, zuJ_1, zuJ_2, zuJ_3, zuP_1, zuP_2, zuP_3, zuC_1, zuC_2, reduceIte, Nat.reduceEqDiff, false_and, and_false, true_and, and_true, and_self, or_true, true_or, or_false, false_or] at tr42_1042
      have tr42_1043 := zsm_at hz42 1043 w 0 (by decide)
      try simp only [zuI_1, zuI_2, zuJ_1, zuJ_2, zuJ_3, zuP_1, zuP_2, zuP_3, zuC_1, zuC_2, reduceIte, Nat.reduceEqDiff, false_and, and_false, true_and, and_true, and_self, or_true, true_or, or_false, false_or] at tr42_1043
      have tr42_1044 := zsm_at hz42 1044 w 0 (by decide)
      try simp only [zuI_1, zuI_2, zuJ_1, zuJ_2, zuJ_3, zuP_1, zuP_2, zuP_3, zuC_1, zuC_2, reduceIte, Nat.reduceEqDiff, false_and, and_false, true_and, and_true, and_self, or_true, true_or, or_false, false_or] at tr42_1044
      have tr42_1045 := zsm_at hz42 1045 w 0 (by decide)
      try simp only [zuI_1, zuI_2, zuJ_1, zuJ_2, zuJ_3, zuP_1, zuP_2, zuP_3, zuC_1, zuC_2, reduceIte, Nat.reduceEqDiff, false_and, and_false, true_and, and_true, and_self, or_true, true_or, or_false, false_or] at tr42_1045
      have tr42_1046 := zsm_at hz42 1046 w 0 (by decide)
      try simp only [zuI_1, zuI_2, zuJ_1, zuJ_2, zuJ_3, zuP_1, zuP_2, zuP_3, zuC_1, zuC_2, reduceIte, Nat.reduceEqDiff, false_and, and_false, true_and, and_true, and_self, or_true, true_or, or_false, false_or] at tr42_1046
      have tr42_1021 := zsm_at hz42 1021 w 0 (by decide)
      try simp only [zuI_1, zuI_2, zuJ_1, zuJ_2, zuJ_3, zuP_1, zuP_2, zuP_3, zuC_1, zuC_2, reduceIte, Nat.reduceEqDiff, false_and, and_false, true_and, and_true, and_self, or_true, true_or, or_false, false_or] at tr42_1021
      have tr42_1006 := zsm_at hz42 1006 w 0 (by decide)
      try simp only [zuI_1, zuI_2, zuJ_1, zuJ_2, zuJ_3, zuP_1, zuP_2, zuP_3, zuC_1, zuC_2, reduceIte, Nat.reduceEqDiff, false_and, and_false, true_and, and_true, and_self, or_true, true_or, or_false, false_or] at tr42_1006
      have e77 : G42.1 2077 = G18.1 2077 := by rw [hz42.1 2077 (by decide), zuI_ne (show (2077 : Nat) ≠ 1044 by decide), zuI_ne (show (2077 : Nat) ≠ 1042 by decide)]
      have e42 : G42.1 1042 w 0 = G18.1 1042 w 0 - 1 := by omega
      have hPI : PI Γ w G42 := by
        unfold PI
        rw [e77, e42]
        exact ⟨by omega, by omega, by omega, fun q => by omega⟩
      have z20 : 1 ≤ (sRel 1 A) 22 0 := by have q9 := hE18.1; omega
      clear p1 p2 p3 p4 k3 k0 p1b p2b p3b p4b k3b k0b c3pb c0pb c3lb c0lb top
      have hSG := sBeh_close r3 (by omega)
      have hS := hSG.1
      have hGo := hSG.2
      have e18a := hE18.1
      have e18b := hE18.2.2.1
      have e18c := sRel_f (r := 1) (A := A) (f := 23) (j := 0) (by decide) (by decide) (by decide) (by decide) (by decide)
      have t1004 := zsm_at hz42 1004 w 0 (by decide)
      have t1005 := zsm_at hz42 1005 w 0 (by decide)
      have t1047 := zsm_at hz42 1047 w 0 (by decide)
      have u1004 := zsm_at hz18 1004 w 0 (by decide)
      have u1005 := zsm_at hz18 1005 w 0 (by decide)
      try simp only [zuI_1, zuI_2, zuJ_1, zuJ_2, zuJ_3, zuP_1, zuP_2, zuP_3, zuC_1, zuC_2, reduceIte, Nat.reduceEqDiff, false_and, and_false, true_and, and_true, and_self, or_true, true_or, or_false, false_or] at t1004 t1005 t1047
      have hgX : gX b n Γ w (sBehind b n A) G42 := by
        rw [hS]
        unfold sClose
        exact gX_close hq42 hK18 hE18 (sRel_0 (by decide)) (by rw [sRel_0 (by decide)]; exact h0) (sRel_0 (by decide)) (by omega) (by omega) (by omega) (by omega) (by omega) (by omega) (by omega) (by omega) (by omega) (by omega)
          (by rw [hz42.1 2074 (by decide), zuI_nf (by decide), zuI_nf (by decide)]) (by rw [hz42.1 2075 (by decide), zuI_nf (by decide), zuI_nf (by decide)]) (by rw [hz42.1 2076 (by decide), zuI_nf (by decide), zuI_nf (by decide)]) (by rw [hz42.1 2078 (by decide), zuI_nf (by decide), zuI_nf (by decide)]) (by rw [hz42.1 2077 (by decide), zuI_nf (by decide), zuI_nf (by decide)])
      have hadv := gT_adv hG hq42 (by have q9 := r3.1; omega)
      refine zs_iconst (pc := 45) C dX9_signs_45 (by decide) ?_
      exact zs_zret (pc := 46) C hr hlk dX9_signs_46 (by omega) ⟨by repeat (first | exact zsm_rf | assumption | refine zsm_C (by decide) ?_ | refine zsm_I (by decide) ?_ | refine zsm_J ?_ | refine zsm_c (by assumption) (by decide) ?_), (by with_reducible repeat (first | exact LJr_rf | assumption | refine LJr_I (h := 0) (by decide) (Nat.zero_le _) ?_ | refine LJr_I (h := 3) (by decide) (by omega) ?_ | refine LJr_I (h := 4) (by decide) (by omega) ?_ | refine LJr_I (h := 5) (by decide) (by omega) ?_ | refine LJr_I (h := 7) (by decide) (by omega) ?_ | refine LJr_I (h := 20) (by decide) (by omega) ?_ | refine LJr_I (h := 64) (by decide) (by omega) ?_ | refine LJr_c (by assumption) ?_)), ⟨by omega, (by repeat (first | assumption | refine MI_I (by decide) ?_ | refine MI_J ?_ | refine MI_sm (by assumption) (by decide) ?_ | refine MI_sn (by assumption) (by decide) ?_)), fun _ => ⟨hPI, hadv, hgX, hGo⟩, fun q => by omega⟩⟩
