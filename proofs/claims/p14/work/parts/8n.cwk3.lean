set_option maxHeartbeats 4000000 in
set_option maxRecDepth 100000 in
theorem c_X4_coarsestFromK {l : Launch} {Γ : zΓ} {G : zH} {w t : Nat} {A W : aS} {a : Int} (hX : zXs Γ) (hZ : QQ Γ w t A W G) (h00 : 0 ≤ W 0 0)  : zMet l Γ yX4_coarsestFrom cX4_coarsestFrom 4 (some .int) 0 [zr 5 (Γ.2.1 w 1), zi a] G (zpi (fun x G' => G' = G ∧ (x = wCo (W 3) (W 5) a (W 0 0).toNat))) := by
  have hI := QQ_t hZ
  refine zMet_of RX4 hX (by decide) rfl (Nat.le_of_ble_eq_true rfl) ?_
  intro p e s m args below meth c C hr hlk
  show Z p l e (zrm 0) s m args below meth c Γ 4 0 0 (MQ below (zQc Γ (zpi (fun x G' => G' = G ∧ (x = wCo (W 3) (W 5) a (W 0 0).toNat)))) args s 0 0 (zA Γ)) 0 [some (zr 5 (Γ.2.1 w 1)), some (zi a), none, none] [] G
  refine zs_loc 1 rfl (fun ha1 hb1 => ?_)
  refine zs_iconst (pc := 0) C dX4_coarsestFrom_0 (by decide) ?_
  refine zs_istore_n (pc := 1) C dX4_coarsestFrom_1 (by decide) ?_
  dsimp only [zset, zclr, znone]
  refine zs_iconst (pc := 2) C dX4_coarsestFrom_2 (by decide) ?_
  refine zs_istore_n (pc := 3) C dX4_coarsestFrom_3 (by decide) ?_
  dsimp only [zset, zclr, znone]
  have L4 : ∀ (nn : Nat) (x2 x3 : Int), (0 ≤ x3 ∧ x3 ≤ W 0 0) → (x2 = wCo (W 3) (W 5) a x3.toNat) → (-1 ≤ x2 ∧ x2 < x3) → (60 - x3).toNat < nn → Z p l e (zrm 0) s m args below meth c Γ 4 0 0 (MQ below (zQc Γ (zpi (fun x G' => G' = G ∧ (x = wCo (W 3) (W 5) a (W 0 0).toNat)))) args s 0 0 (zA Γ)) 4 [some (zr 5 (Γ.2.1 w 1)), some (zi a), some (zi x2), some (zi x3)] [] G := by
    intro nn
    induction nn with
    | zero => intro x2 x3 h4_0 h4_1 h4_2 hm; exact absurd hm (Nat.not_lt_zero _)
    | succ nn ih4 =>
      intro x2 x3 h4_0 h4_1 h4_2 hm4
      refine zs_iload_n (pc := 4) C dX4_coarsestFrom_4 rfl ?_
      refine zs_aload_n (pc := 5) C dX4_coarsestFrom_5 rfl ?_
      refine zs_geti (r := 510) (pc := 6) C dX4_coarsestFrom_6 w_X4_42 f_5_10 rfl (r_510 0) (fun v6 e6 l6 u6 => ?_)
      try simp only [QQ_510 hZ] at e6
      try subst v6
      refine zs_icmp_ge (tgt := 59) (pc := 9) C dX4_coarsestFrom_9 (by decide) (fun h9 => ?_) (fun h9 => ?_)
      · skip
        have hx3 : x3 = W 0 0 := by omega
        rw [hx3] at h4_1
        refine zs_iload_n (pc := 59) C dX4_coarsestFrom_59 rfl ?_
        exact zs_iret (pc := 60) C hr hlk dX4_coarsestFrom_60 ⟨rfl, h4_1⟩
      · skip
        have hs := wCo_s (W := W) (a := a) (k := x3) (by omega)
        rw [← h4_1] at hs
        refine zs_aload_n (pc := 12) C dX4_coarsestFrom_12 rfl ?_
        refine zs_getf (pc := 13) C dX4_coarsestFrom_13 w_X4_24 f_5_4 (by decide) ?_
        refine zs_iload_n (pc := 16) C dX4_coarsestFrom_16 rfl ?_
        refine zs_iald (r := 2030) (pc := 17) C dX4_coarsestFrom_17 a_30 (by decide) (by omega) rfl (r_2030 _) (fun v17 e17 l17 u17 => ?_)
        try simp only [QQ_2030 hZ] at e17
        try subst v17
        have J53 : ∀ (y2 : Int), (y2 = wCo (W 3) (W 5) a (x3 + 1).toNat ∧ -1 ≤ y2 ∧ y2 < x3 + 1) → Z p l e (zrm 0) s m args below meth c Γ 4 0 0 (MQ below (zQc Γ (zpi (fun x G' => G' = G ∧ (x = wCo (W 3) (W 5) a (W 0 0).toNat)))) args s 0 0 (zA Γ)) 53 [some (zr 5 (Γ.2.1 w 1)), some (zi a), some (zi y2), some (zi x3)] [] G := by
          intro y2 h53_0
          first | refine zs_iinc (pc := 53) C dX4_coarsestFrom_53 rfl (by decide) (by omega) ?_ | refine zs_iincF (pc := 53) C dX4_coarsestFrom_53 rfl (by decide) (fun z53 hz531 hz532 => ?_)
          dsimp only [zset, zclr, znone]
          refine zs_goto (tgt := 4) (pc := 56) C dX4_coarsestFrom_56 (by decide) ?_
          exact zs_wk (ih4 _ _ (by omega) h53_0.1 h53_0.2 (by first | omega | (simp only [zuI_1, zuI_2, zuJ_1, zuJ_2, zuJ_3, zuP_1, zuP_2, zuP_3, zuC_1, zuC_2, reduceIte, Nat.reduceEqDiff, false_and, and_false, true_and, and_true, and_self, or_true, true_or, or_false, false_or]; omega))) (zwk_s rfl (zwk_s rfl (zwk_s rfl (zwk_s rfl zwk_0))))
        refine zs_if_le (tgt := 53) (pc := 18) C dX4_coarsestFrom_18 (by decide) (fun h18 => ?_) (fun h18 => ?_)
        · skip
          exact zs_wk (J53 _ (by first | (refine ⟨?_, by omega, by omega⟩; omega) | (refine ⟨?_, by omega, by omega⟩; rw [hs, if_neg (by rintro ⟨q1, q2, q3⟩; rcases q3 with q3 | q3 <;> omega)]))) (zwk_s rfl (zwk_s rfl (zwk_s rfl (zwk_s rfl zwk_0))))
        · skip
          refine zs_aload_n (pc := 21) C dX4_coarsestFrom_21 rfl ?_
          refine zs_getf (pc := 22) C dX4_coarsestFrom_22 w_X4_18 f_5_2 (by decide) ?_
          refine zs_iload_n (pc := 25) C dX4_coarsestFrom_25 rfl ?_
          refine zs_iald (r := 2028) (pc := 26) C dX4_coarsestFrom_26 a_28 (by decide) (by omega) rfl (r_2028 _) (fun v26 e26 l26 u26 => ?_)
          try simp only [QQ_2028 hZ] at e26
          try subst v26
          refine zs_iload_n (pc := 27) C dX4_coarsestFrom_27 rfl ?_
          refine zs_icmp_lt (tgt := 53) (pc := 28) C dX4_coarsestFrom_28 (by decide) (fun h28 => ?_) (fun h28 => ?_)
          · skip
            exact zs_wk (J53 _ (by first | (refine ⟨?_, by omega, by omega⟩; omega) | (refine ⟨?_, by omega, by omega⟩; rw [hs, if_neg (by rintro ⟨q1, q2, q3⟩; rcases q3 with q3 | q3 <;> omega)]))) (zwk_s rfl (zwk_s rfl (zwk_s rfl (zwk_s rfl zwk_0))))
          · skip
            refine zs_iload_n (pc := 31) C dX4_coarsestFrom_31 rfl ?_
            refine zs_iconst (pc := 32) C dX4_coarsestFrom_32 (by decide) ?_
            refine zs_icmp_eq (tgt := 51) (pc := 33) C dX4_coarsestFrom_33 (by decide) (fun h33 => ?_) (fun h33 => ?_)
            · skip
              rw [if_pos (by first | exact ⟨by omega, by omega, Or.inl (by omega)⟩ | exact ⟨by omega, by omega, Or.inr (by omega)⟩)] at hs
              refine zs_iload_n (pc := 51) C dX4_coarsestFrom_51 rfl ?_
              refine zs_istore_n (pc := 52) C dX4_coarsestFrom_52 (by decide) ?_
              dsimp only [zset, zclr, znone]
              exact zs_wk (J53 _ (by first | (refine ⟨?_, by omega, by omega⟩; omega) | (refine ⟨?_, by omega, by omega⟩; rw [hs, if_neg (by rintro ⟨q1, q2, q3⟩; rcases q3 with q3 | q3 <;> omega)]))) (zwk_s rfl (zwk_s rfl (zwk_s rfl (zwk_s rfl zwk_0))))
            · skip
              refine zs_aload_n (pc := 36) C dX4_coarsestFrom_36 rfl ?_
              refine zs_getf (pc := 37) C dX4_coarsestFrom_37 w_X4_18 f_5_2 (by decide) ?_
              refine zs_iload_n (pc := 40) C dX4_coarsestFrom_40 rfl ?_
              refine zs_iald (r := 2028) (pc := 41) C dX4_coarsestFrom_41 a_28 (by decide) (by omega) rfl (r_2028 _) (fun v41 e41 l41 u41 => ?_)
              try simp only [QQ_2028 hZ] at e41
              try subst v41
              refine zs_aload_n (pc := 42) C dX4_coarsestFrom_42 rfl ?_
              refine zs_getf (pc := 43) C dX4_coarsestFrom_43 w_X4_18 f_5_2 (by decide) ?_
              refine zs_iload_n (pc := 46) C dX4_coarsestFrom_46 rfl ?_
              refine zs_iald (r := 2028) (pc := 47) C dX4_coarsestFrom_47 a_28 (by decide) (by omega) rfl (r_2028 _) (fun v47 e47 l47 u47 => ?_)
              try simp only [QQ_2028 hZ] at e47
              try subst v47
              refine zs_icmp_ge (tgt := 53) (pc := 48) C dX4_coarsestFrom_48 (by decide) (fun h48 => ?_) (fun h48 => ?_)
              · skip
                exact zs_wk (J53 _ (by first | (refine ⟨?_, by omega, by omega⟩; omega) | (refine ⟨?_, by omega, by omega⟩; rw [hs, if_neg (by rintro ⟨q1, q2, q3⟩; rcases q3 with q3 | q3 <;> omega)]))) (zwk_s rfl (zwk_s rfl (zwk_s rfl (zwk_s rfl zwk_0))))
              · skip
                rw [if_pos (by first | exact ⟨by omega, by omega, Or.inl (by omega)⟩ | exact ⟨by omega, by omega, Or.inr (by omega)⟩)] at hs
                refine zs_iload_n (pc := 51) C dX4_coarsestFrom_51 rfl ?_
                refine zs_istore_n (pc := 52) C dX4_coarsestFrom_52 (by decide) ?_
                dsimp only [zset, zclr, znone]
                exact zs_wk (J53 _ (by first | (refine ⟨?_, by omega, by omega⟩; omega) | (refine ⟨?_, by omega, by omega⟩; rw [hs, if_neg (by rintro ⟨q1, q2, q3⟩; rcases q3 with q3 | q3 <;> omega)]))) (zwk_s rfl (zwk_s rfl (zwk_s rfl (zwk_s rfl zwk_0))))
  exact zs_wk (L4 _ _ _ (by omega) (show (-1 : Int) = _ from rfl) (by omega) (Nat.lt_succ_self _)) (zwk_s rfl (zwk_s rfl (zwk_s rfl (zwk_s rfl zwk_0))))

set_option maxHeartbeats 4000000 in
set_option maxRecDepth 100000 in
theorem c_X7_bakeOneK {l : Launch} {Γ : zΓ} {G : zH} {w t : Nat} {A W : aS} {p : Int} (hX : zXs Γ) (hZ : QQ Γ w t A W G) (hW : WI A W) (hT : TA A) (hp : 0 ≤ p ∧ p ≤ 4) (hp2 : p < A 4 2)  : zMet l Γ yX7_bakeOne cX7_bakeOne 7 (some .boolean) 1 [zr 8 w, zi p] G (zpi (fun x G' => zsm [2054, 2030, 2053] G G' ∧ (QQ Γ w t A (wBake A W p) G' ∧ ((x = 0 ∨ x = 1) ∧ (x = 1 ↔ wCanB A W p))))) := by
  have hI := QQ_t hZ
  have hck := hT.2.2.2.2.1 p.toNat (by omega)
  have h00 := hW.1
  refine zMet_of RX7 hX (by decide) rfl (Nat.le_of_ble_eq_true rfl) ?_
  intro px9 e s m args below meth c C hr hlk
  show Z px9 l e (zrm 1) s m args below meth c Γ 7 0 0 (MQ below (zQc Γ (zpi (fun x G' => zsm [2054, 2030, 2053] G G' ∧ (QQ Γ w t A (wBake A W p) G' ∧ ((x = 0 ∨ x = 1) ∧ (x = 1 ↔ wCanB A W p)))))) args s 0 0 (zA Γ)) 0 [some (zr 8 w), some (zi p), none, none, none, none, none] [] G
  refine zs_loc 1 rfl (fun ha1 hb1 => ?_)
  refine zs_aload_n (pc := 0) C dX7_bakeOne_0 rfl ?_
  refine zs_getd (r := 800) (pc := 1) C dX7_bakeOne_1 w_X7_40 f_8_0 (by decide) rfl (fun v1 e1 t1 => ?_)
  rw [hI] at e1
  subst v1
  refine zs_getf (pc := 4) C dX7_bakeOne_4 w_X7_225 f_6_6 (by decide) ?_
  refine zs_iload_n (pc := 7) C dX7_bakeOne_7 rfl ?_
  refine zs_iald (r := 2041) (pc := 8) C dX7_bakeOne_8 a_41 (by decide) (by omega) rfl (r_2041 _) (fun v8 e8 l8 u8 => ?_)
  try simp only [QQ_2041 hZ] at e8
  try subst v8
  refine zs_istore_n (pc := 9) C dX7_bakeOne_9 (by decide) ?_
  dsimp only [zset, zclr, znone]
  refine zs_aload_n (pc := 10) C dX7_bakeOne_10 rfl ?_
  refine zs_getd (r := 800) (pc := 11) C dX7_bakeOne_11 w_X7_40 f_8_0 (by decide) rfl (fun v11 e11 t11 => ?_)
  rw [hI] at e11
  subst v11
  refine zs_getf (pc := 14) C dX7_bakeOne_14 w_X7_228 f_6_7 (by decide) ?_
  refine zs_iload_n (pc := 17) C dX7_bakeOne_17 rfl ?_
  refine zs_iald (r := 2042) (pc := 18) C dX7_bakeOne_18 a_42 (by decide) (by omega) rfl (r_2042 _) (fun v18 e18 l18 u18 => ?_)
  try simp only [QQ_2042 hZ] at e18
  try subst v18
  refine zs_istore_n (pc := 19) C dX7_bakeOne_19 (by decide) ?_
  dsimp only [zset, zclr, znone]
  refine zs_aload_n (pc := 20) C dX7_bakeOne_20 rfl ?_
  refine zs_iload_n (pc := 21) C dX7_bakeOne_21 rfl ?_
  refine zVip1 (pc := 22) C dX7_bakeOne_22 v_X7_231 (c_X7_isBakedK hX hZ hp) (by decide) (by decide) ⟨Nat.zero_le _, Nat.zero_le _⟩ (Nat.le_of_ble_eq_true rfl) (fun x22 l22 u22 hp22 => ?_)
  have hq22 := hp22
  refine zs_if_ne (tgt := 40) (pc := 25) C dX7_bakeOne_25 (by decide) (fun h25 => ?_) (fun h25 => ?_)
  · skip
    have hncb : ¬ wCanB A W p := fun q => by have q1 := q.1; have q2 := q.2; have := hq22.2; omega
    refine zs_iconst (pc := 40) C dX7_bakeOne_40 (by decide) ?_
    exact zs_zret (pc := 41) C hr hlk dX7_bakeOne_41 (by omega) ⟨by repeat (first | exact zsm_rf | assumption | refine zsm_C (by decide) ?_ | refine zsm_I (by decide) ?_ | refine zsm_J ?_ | refine zsm_c (by assumption) (by decide) ?_), ⟨by unfold wBake; rw [if_neg hncb]; exact hZ, Or.inl rfl, fun q => absurd q (by decide), fun q => absurd q hncb⟩⟩
  · skip
    refine zs_aload_n (pc := 28) C dX7_bakeOne_28 rfl ?_
    refine zs_getf (pc := 29) C dX7_bakeOne_29 w_X7_12 f_8_1 (by decide) ?_
    refine zs_iload_n (pc := 32) C dX7_bakeOne_32 rfl ?_
    refine zVip1 (pc := 33) C dX7_bakeOne_33 v_X7_235 (c_X4_flourFromK hX hZ hW) (by decide) (by decide) ⟨Nat.zero_le _, Nat.zero_le _⟩ (Nat.le_of_ble_eq_true rfl) (fun x33 l33 u33 hp33 => ?_)
    have hq33 := hp33
    refine zs_iload_n (pc := 36) C dX7_bakeOne_36 rfl ?_
    refine zs_icmp_ge (tgt := 42) (pc := 37) C dX7_bakeOne_37 (by decide) (fun h37 => ?_) (fun h37 => ?_)
    · skip
      have hcb : wCanB A W p := ⟨by have := hq22.2; omega, by omega⟩
      refine zs_iconst (pc := 42) C dX7_bakeOne_42 (by decide) ?_
      refine zs_istore (pc := 43) C dX7_bakeOne_43 (by decide) ?_
      dsimp only [zset, zclr, znone]
      have L45 : ∀ (nn : Nat) (x4 : Int) (G1 : zH), (0 ≤ x4 ∧ x4 ≤ 60) → (zsm [2054, 2030, 2053] G G1) → (QQ Γ w t A (wTk0 W p x4.toNat) G1) → (60 - x4).toNat < nn → Z px9 l e (zrm 1) s m args below meth c Γ 7 0 0 (MQ below (zQc Γ (zpi (fun x G' => zsm [2054, 2030, 2053] G G' ∧ (QQ Γ w t A (wBake A W p) G' ∧ ((x = 0 ∨ x = 1) ∧ (x = 1 ↔ wCanB A W p)))))) args s 0 0 (zA Γ)) 45 [some (zr 8 w), some (zi p), some (zi (A 9 p.toNat)), some (zi (A 10 p.toNat)), some (zi x4), none, none] [] G1 := by
        intro nn
        induction nn with
        | zero => intro x4 G1 h45_0 h45_1 h45_2 hm; exact absurd hm (Nat.not_lt_zero _)
        | succ nn ih45 =>
          intro x4 G1 h45_0 h45_1 h45_2 hm45
          refine zs_iload (pc := 45) C dX7_bakeOne_45 rfl ?_
          refine zs_bipush (pc := 47) C dX7_bakeOne_47 (by decide) (by decide) ?_
          refine zs_icmp_ge (tgt := 71) (pc := 49) C dX7_bakeOne_49 (by decide) (fun h49 => ?_) (fun h49 => ?_)
          · skip
            have hx4 : x4 = 60 := by omega
            rw [hx4] at h45_2
            have h71 : QQ Γ w t A (wTk0 W p 60) G1 := h45_2
            refine zs_iconst (pc := 71) C dX7_bakeOne_71 (by decide) ?_
            refine zs_istore (pc := 72) C dX7_bakeOne_72 (by decide) ?_
            dsimp only [zset, zclr, znone]
            have L74 : ∀ (nn : Nat) (x3 x4 : Int) (G2 : zH) (W2 : aS), (0 ≤ x4 ∧ x4 ≤ 60) → (zsm [2054, 2030, 2053] G G2) → (QQ Γ w t A (W2) G2) → (wTk (A 9 p.toNat) p (60 - x4).toNat (x3, W2) = wTk (A 9 p.toNat) p 60 (A 10 p.toNat, wTk0 W p 60)) → (0 ≤ x3 ∧ x3 ≤ 99) → (W2 18 0 = W 18 0) → (W2 0 0 = W 0 0) → (60 - x4).toNat < nn → Z px9 l e (zrm 1) s m args below meth c Γ 7 0 0 (MQ below (zQc Γ (zpi (fun x G' => zsm [2054, 2030, 2053] G G' ∧ (QQ Γ w t A (wBake A W p) G' ∧ ((x = 0 ∨ x = 1) ∧ (x = 1 ↔ wCanB A W p)))))) args s 0 0 (zA Γ)) 74 [some (zr 8 w), some (zi p), some (zi (A 9 p.toNat)), some (zi x3), some (zi x4), none, none] [] G2 := by
              intro nn
              induction nn with
              | zero => intro x3 x4 G2 W2 h74_0 h74_1 h74_2 h74_3 h74_4 h74_5 h74_6 hm; exact absurd hm (Nat.not_lt_zero _)
              | succ nn ih74 =>
                intro x3 x4 G2 W2 h74_0 h74_1 h74_2 h74_3 h74_4 h74_5 h74_6 hm74
                refine zs_iload (pc := 74) C dX7_bakeOne_74 rfl ?_
                refine zs_bipush (pc := 76) C dX7_bakeOne_76 (by decide) (by decide) ?_
                refine zs_icmp_ge (tgt := 160) (pc := 78) C dX7_bakeOne_78 (by decide) (fun h78 => ?_) (fun h78 => ?_)
                · skip
                  have hfin : wTk (A 9 p.toNat) p 60 (A 10 p.toNat, wTk0 W p 60) = (x3, W2) := by rw [← h74_3]; first | (rw [show (60 - x4).toNat = 0 by omega]; rfl) | exact wTk_e (fun q => by have q1 : 0 < x3 := q.1; have q2 : wCo (W2 3) (W2 5) (A 9 p.toNat) (W2 0 0).toNat ≠ -1 := q.2; omega) _
                  refine zs_aload_n (pc := 160) C dX7_bakeOne_160 rfl ?_
                  refine zs_getf (pc := 161) C dX7_bakeOne_161 w_X7_34 f_8_7 (by decide) ?_
                  refine zs_iload_n (pc := 164) C dX7_bakeOne_164 rfl ?_
                  refine zs_aload_n (pc := 165) C dX7_bakeOne_165 rfl ?_
                  refine zs_geti (r := 809) (pc := 166) C dX7_bakeOne_166 w_X7_69 f_8_9 rfl (r_809 0) (fun v166 e166 l166 u166 => ?_)
                  try simp only [QQ_809 h74_2] at e166
                  try subst v166
                  refine zs_iast (r := 2053) (pc := 169) C dX7_bakeOne_169 a_53 (by decide) (by omega) rfl (r_2053 _) (by omega) ?_
                  refine zs_iconst (pc := 170) C dX7_bakeOne_170 (by decide) ?_
                  exact zs_zret (pc := 171) C hr hlk dX7_bakeOne_171 (by omega) ⟨by repeat (first | exact zsm_rf | assumption | refine zsm_C (by decide) ?_ | refine zsm_I (by decide) ?_ | refine zsm_J ?_ | refine zsm_c (by assumption) (by decide) ?_), ⟨by unfold wBake; rw [if_pos hcb, hfin]; show QQ Γ w t A (up W2 16 p.toNat (W 18 0)) _; rw [← h74_5]; repeat (first | assumption | apply QQw_510 | apply QQw_2026 | apply QQw_2027 | apply QQw_2028 | apply QQw_2029 | apply QQw_2030 | apply QQw_2031 | apply QQw_2032 | apply QQw_2033 | apply QQw_2034 | apply QQw_2035 | apply QQw_2048 | apply QQw_2049 | apply QQw_2050 | apply QQw_2051 | apply QQw_2052 | apply QQw_2053 | apply QQw_2054 | apply QQw_809 | apply QQw_810 | apply QQw_811 | apply QQw_812 | apply QQw_813 | apply QQ_J | refine QQ_n (by assumption) ?_ | refine QQ_sm (by assumption) (by decide) (by decide +kernel) ?_), Or.inr rfl, fun _ => hcb, fun _ => rfl⟩⟩
                · skip
                  refine zs_iload_n (pc := 81) C dX7_bakeOne_81 rfl ?_
                  refine zs_if_le (tgt := 160) (pc := 82) C dX7_bakeOne_82 (by decide) (fun h82 => ?_) (fun h82 => ?_)
                  · skip
                    have hfin : wTk (A 9 p.toNat) p 60 (A 10 p.toNat, wTk0 W p 60) = (x3, W2) := by rw [← h74_3]; first | (rw [show (60 - x4).toNat = 0 by omega]; rfl) | exact wTk_e (fun q => by have q1 : 0 < x3 := q.1; have q2 : wCo (W2 3) (W2 5) (A 9 p.toNat) (W2 0 0).toNat ≠ -1 := q.2; omega) _
                    refine zs_aload_n (pc := 160) C dX7_bakeOne_160 rfl ?_
                    refine zs_getf (pc := 161) C dX7_bakeOne_161 w_X7_34 f_8_7 (by decide) ?_
                    refine zs_iload_n (pc := 164) C dX7_bakeOne_164 rfl ?_
                    refine zs_aload_n (pc := 165) C dX7_bakeOne_165 rfl ?_
                    refine zs_geti (r := 809) (pc := 166) C dX7_bakeOne_166 w_X7_69 f_8_9 rfl (r_809 0) (fun v166 e166 l166 u166 => ?_)
                    try simp only [QQ_809 h74_2] at e166
                    try subst v166
                    refine zs_iast (r := 2053) (pc := 169) C dX7_bakeOne_169 a_53 (by decide) (by omega) rfl (r_2053 _) (by omega) ?_
                    refine zs_iconst (pc := 170) C dX7_bakeOne_170 (by decide) ?_
                    exact zs_zret (pc := 171) C hr hlk dX7_bakeOne_171 (by omega) ⟨by repeat (first | exact zsm_rf | assumption | refine zsm_C (by decide) ?_ | refine zsm_I (by decide) ?_ | refine zsm_J ?_ | refine zsm_c (by assumption) (by decide) ?_), ⟨by unfold wBake; rw [if_pos hcb, hfin]; show QQ Γ w t A (up W2 16 p.toNat (W 18 0)) _; rw [← h74_5]; repeat (first | assumption | apply QQw_510 | apply QQw_2026 | apply QQw_2027 | apply QQw_2028 | apply QQw_2029 | apply QQw_2030 | apply QQw_2031 | apply QQw_2032 | apply QQw_2033 | apply QQw_2034 | apply QQw_2035 | apply QQw_2048 | apply QQw_2049 | apply QQw_2050 | apply QQw_2051 | apply QQw_2052 | apply QQw_2053 | apply QQw_2054 | apply QQw_809 | apply QQw_810 | apply QQw_811 | apply QQw_812 | apply QQw_813 | apply QQ_J | refine QQ_n (by assumption) ?_ | refine QQ_sm (by assumption) (by decide) (by decide +kernel) ?_), Or.inr rfl, fun _ => hcb, fun _ => rfl⟩⟩
                  · skip
                    refine zs_aload_n (pc := 85) C dX7_bakeOne_85 rfl ?_
                    refine zs_getf (pc := 86) C dX7_bakeOne_86 w_X7_12 f_8_1 (by decide) ?_
                    refine zs_iload_n (pc := 89) C dX7_bakeOne_89 rfl ?_
                    refine zVip1 (pc := 90) C dX7_bakeOne_90 v_X7_238 (c_X4_coarsestFromK hX h74_2 (by omega)) (by decide) (by decide) ⟨Nat.zero_le _, Nat.zero_le _⟩ (Nat.le_of_ble_eq_true rfl) (fun x90 l90 u90 hp90 => ?_)
                    have hq90 := hp90
                    have hx90 : x90 = wCo (W2 3) (W2 5) (A 9 p.toNat) (W2 0 0).toNat := hq90
                    subst hx90
                    refine zs_istore (pc := 93) C dX7_bakeOne_93 (by decide) ?_
                    dsimp only [zset, zclr, znone]
                    refine zs_iload (pc := 95) C dX7_bakeOne_95 rfl ?_
                    refine zs_iconst (pc := 97) C dX7_bakeOne_97 (by decide) ?_
                    refine zs_icmp_ne (tgt := 104) (pc := 98) C dX7_bakeOne_98 (by decide) (fun h98 => ?_) (fun h98 => ?_)
                    · skip
                      have hco := (wCo_in (F := W2 3) (H := W2 5) (a := A 9 p.toNat) (W2 0 0).toNat).resolve_left (by omega)
                      refine zs_iload_n (pc := 104) C dX7_bakeOne_104 rfl ?_
                      refine zs_aload_n (pc := 105) C dX7_bakeOne_105 rfl ?_
                      refine zs_getf (pc := 106) C dX7_bakeOne_106 w_X7_12 f_8_1 (by decide) ?_
                      refine zs_getf (pc := 109) C dX7_bakeOne_109 w_X7_181 f_5_4 (by decide) ?_
                      refine zs_iload (pc := 112) C dX7_bakeOne_112 rfl ?_
                      refine zs_iald (r := 2030) (pc := 114) C dX7_bakeOne_114 a_30 (by decide) (by omega) rfl (r_2030 _) (fun v114 e114 l114 u114 => ?_)
                      try simp only [QQ_2030 h74_2] at e114
                      try subst v114
                      refine zs_minI (pc := 115) C dX7_bakeOne_115 s_X7_149 (by decide) (Nat.le_of_ble_eq_true rfl) ⟨Nat.zero_le _, Nat.zero_le _⟩ (fun z115 hz115 => ?_)
                      subst hz115
                      refine zs_istore (pc := 118) C dX7_bakeOne_118 (by decide) ?_
                      dsimp only [zset, zclr, znone]
                      refine zs_aload_n (pc := 120) C dX7_bakeOne_120 rfl ?_
                      refine zs_getf (pc := 121) C dX7_bakeOne_121 w_X7_12 f_8_1 (by decide) ?_
                      refine zs_getf (pc := 124) C dX7_bakeOne_124 w_X7_181 f_5_4 (by decide) ?_
                      refine zs_iload (pc := 127) C dX7_bakeOne_127 rfl ?_
                      refine zs_dup2 (pc := 129) C dX7_bakeOne_129 ?_
                      refine zs_iald (r := 2030) (pc := 130) C dX7_bakeOne_130 a_30 (by decide) (by omega) rfl (r_2030 _) (fun v130 e130 l130 u130 => ?_)
                      try simp only [QQ_2030 h74_2] at e130
                      try subst v130
                      refine zs_iload (pc := 131) C dX7_bakeOne_131 rfl ?_
                      first | refine zs_isub (pc := 133) C dX7_bakeOne_133 (by omega) ?_ | refine zs_isubF (pc := 133) C dX7_bakeOne_133 (fun z133 hz1331 hz1332 => ?_)
                      refine zs_iast (r := 2030) (pc := 134) C dX7_bakeOne_134 a_30 (by decide) (by omega) rfl (r_2030 _) (by omega) ?_
                      refine zs_aload_n (pc := 135) C dX7_bakeOne_135 rfl ?_
                      refine zs_getf (pc := 136) C dX7_bakeOne_136 w_X7_37 f_8_8 (by decide) ?_
                      refine zs_iload_n (pc := 139) C dX7_bakeOne_139 rfl ?_
                      refine zs_bipush (pc := 140) C dX7_bakeOne_140 (by decide) (by decide) ?_
                      first | refine zs_imul (pc := 142) C dX7_bakeOne_142 (by omega) ?_ | refine zs_imulF (pc := 142) C dX7_bakeOne_142 (fun z142 hz1421 hz1422 => ?_)
                      refine zs_iload (pc := 143) C dX7_bakeOne_143 rfl ?_
                      first | refine zs_iadd (pc := 145) C dX7_bakeOne_145 (by omega) ?_ | refine zs_iaddF (pc := 145) C dX7_bakeOne_145 (fun z145 hz1451 hz1452 => ?_)
                      refine zs_iload (pc := 146) C dX7_bakeOne_146 rfl ?_
                      refine zs_iast (r := 2054) (pc := 148) C dX7_bakeOne_148 a_54 (by decide) (by omega) rfl (r_2054 _) (by omega) ?_
                      refine zs_iload_n (pc := 149) C dX7_bakeOne_149 rfl ?_
                      refine zs_iload (pc := 150) C dX7_bakeOne_150 rfl ?_
                      first | refine zs_isub (pc := 152) C dX7_bakeOne_152 (by omega) ?_ | refine zs_isubF (pc := 152) C dX7_bakeOne_152 (fun z152 hz1521 hz1522 => ?_)
                      refine zs_istore_n (pc := 153) C dX7_bakeOne_153 (by decide) ?_
                      dsimp only [zset, zclr, znone]
                      first | refine zs_iinc (pc := 154) C dX7_bakeOne_154 rfl (by decide) (by omega) ?_ | refine zs_iincF (pc := 154) C dX7_bakeOne_154 rfl (by decide) (fun z154 hz1541 hz1542 => ?_)
                      dsimp only [zset, zclr, znone]
                      refine zs_goto (tgt := 74) (pc := 157) C dX7_bakeOne_157 (by decide) ?_
                      exact zs_wk (ih74 _ _ _ _ (by omega) (by repeat (first | exact zsm_rf | assumption | refine zsm_C (by decide) ?_ | refine zsm_I (by decide) ?_ | refine zsm_J ?_ | refine zsm_c (by assumption) (by decide) ?_)) (by repeat (first | assumption | apply QQw_510 | apply QQw_2026 | apply QQw_2027 | apply QQw_2028 | apply QQw_2029 | apply QQw_2030 | apply QQw_2031 | apply QQw_2032 | apply QQw_2033 | apply QQw_2034 | apply QQw_2035 | apply QQw_2048 | apply QQw_2049 | apply QQw_2050 | apply QQw_2051 | apply QQw_2052 | apply QQw_2053 | apply QQw_2054 | apply QQw_809 | apply QQw_810 | apply QQw_811 | apply QQw_812 | apply QQw_813 | apply QQ_J | refine QQ_n (by assumption) ?_ | refine QQ_sm (by assumption) (by decide) (by decide +kernel) ?_)) (by rw [← h74_3]; exact (wTk_s (x := (x3, W2)) (by omega) ⟨by show 0 < x3; omega, by show wCo (W2 3) (W2 5) (A 9 p.toNat) (W2 0 0).toNat ≠ -1; omega⟩).symm) (by omega) (by rw [up_f (by decide), up_f (by decide)]; exact h74_5) (by rw [up_f (by decide), up_f (by decide)]; exact h74_6) (by first | omega | (simp only [zuI_1, zuI_2, zuJ_1, zuJ_2, zuJ_3, zuP_1, zuP_2, zuP_3, zuC_1, zuC_2, reduceIte, Nat.reduceEqDiff, false_and, and_false, true_and, and_true, and_self, or_true, true_or, or_false, false_or]; omega))) (zwk_s rfl (zwk_s rfl (zwk_s rfl (zwk_s rfl (zwk_s rfl (zwk_n (zwk_n zwk_0)))))))
                    · skip
                      refine zs_goto (tgt := 160) (pc := 101) C dX7_bakeOne_101 (by decide) ?_
                      have hfin : wTk (A 9 p.toNat) p 60 (A 10 p.toNat, wTk0 W p 60) = (x3, W2) := by rw [← h74_3]; first | (rw [show (60 - x4).toNat = 0 by omega]; rfl) | exact wTk_e (fun q => by have q1 : 0 < x3 := q.1; have q2 : wCo (W2 3) (W2 5) (A 9 p.toNat) (W2 0 0).toNat ≠ -1 := q.2; omega) _
                      refine zs_aload_n (pc := 160) C dX7_bakeOne_160 rfl ?_
                      refine zs_getf (pc := 161) C dX7_bakeOne_161 w_X7_34 f_8_7 (by decide) ?_
                      refine zs_iload_n (pc := 164) C dX7_bakeOne_164 rfl ?_
                      refine zs_aload_n (pc := 165) C dX7_bakeOne_165 rfl ?_
                      refine zs_geti (r := 809) (pc := 166) C dX7_bakeOne_166 w_X7_69 f_8_9 rfl (r_809 0) (fun v166 e166 l166 u166 => ?_)
                      try simp only [QQ_809 h74_2] at e166
                      try subst v166
                      refine zs_iast (r := 2053) (pc := 169) C dX7_bakeOne_169 a_53 (by decide) (by omega) rfl (r_2053 _) (by omega) ?_
                      refine zs_iconst (pc := 170) C dX7_bakeOne_170 (by decide) ?_
                      exact zs_zret (pc := 171) C hr hlk dX7_bakeOne_171 (by omega) ⟨by repeat (first | exact zsm_rf | assumption | refine zsm_C (by decide) ?_ | refine zsm_I (by decide) ?_ | refine zsm_J ?_ | refine zsm_c (by assumption) (by decide) ?_), ⟨by unfold wBake; rw [if_pos hcb, hfin]; show QQ Γ w t A (up W2 16 p.toNat (W 18 0)) _; rw [← h74_5]; repeat (first | assumption | apply QQw_510 | apply QQw_2026 | apply QQw_2027 | apply QQw_2028 | apply QQw_2029 | apply QQw_2030 | apply QQw_2031 | apply QQw_2032 | apply QQw_2033 | apply QQw_2034 | apply QQw_2035 | apply QQw_2048 | apply QQw_2049 | apply QQw_2050 | apply QQw_2051 | apply QQw_2052 | apply QQw_2053 | apply QQw_2054 | apply QQw_809 | apply QQw_810 | apply QQw_811 | apply QQw_812 | apply QQw_813 | apply QQ_J | refine QQ_n (by assumption) ?_ | refine QQ_sm (by assumption) (by decide) (by decide +kernel) ?_), Or.inr rfl, fun _ => hcb, fun _ => rfl⟩⟩
            exact zs_wk (L74 _ _ _ _ _ (by omega) h45_1 h71 rfl (by omega) (wTk0_f (by decide) 60) (wTk0_f (by decide) 60) (Nat.lt_succ_self _)) (zwk_s rfl (zwk_s rfl (zwk_s rfl (zwk_s rfl (zwk_s rfl (zwk_n (zwk_n zwk_0)))))))
          · skip
            refine zs_aload_n (pc := 52) C dX7_bakeOne_52 rfl ?_
            refine zs_getf (pc := 53) C dX7_bakeOne_53 w_X7_37 f_8_8 (by decide) ?_
            refine zs_iload_n (pc := 56) C dX7_bakeOne_56 rfl ?_
            refine zs_bipush (pc := 57) C dX7_bakeOne_57 (by decide) (by decide) ?_
            first | refine zs_imul (pc := 59) C dX7_bakeOne_59 (by omega) ?_ | refine zs_imulF (pc := 59) C dX7_bakeOne_59 (fun z59 hz591 hz592 => ?_)
            refine zs_iload (pc := 60) C dX7_bakeOne_60 rfl ?_
            first | refine zs_iadd (pc := 62) C dX7_bakeOne_62 (by omega) ?_ | refine zs_iaddF (pc := 62) C dX7_bakeOne_62 (fun z62 hz621 hz622 => ?_)
            refine zs_iconst (pc := 63) C dX7_bakeOne_63 (by decide) ?_
            refine zs_iast (r := 2054) (pc := 64) C dX7_bakeOne_64 a_54 (by decide) (by omega) rfl (r_2054 _) (by omega) ?_
            first | refine zs_iinc (pc := 65) C dX7_bakeOne_65 rfl (by decide) (by omega) ?_ | refine zs_iincF (pc := 65) C dX7_bakeOne_65 rfl (by decide) (fun z65 hz651 hz652 => ?_)
            dsimp only [zset, zclr, znone]
            refine zs_goto (tgt := 45) (pc := 68) C dX7_bakeOne_68 (by decide) ?_
            exact zs_wk (ih45 _ _ (by omega) (by repeat (first | exact zsm_rf | assumption | refine zsm_C (by decide) ?_ | refine zsm_I (by decide) ?_ | refine zsm_J ?_ | refine zsm_c (by assumption) (by decide) ?_)) (by rw [wTk0_s (by omega) hp.1]; repeat (first | assumption | apply QQw_510 | apply QQw_2026 | apply QQw_2027 | apply QQw_2028 | apply QQw_2029 | apply QQw_2030 | apply QQw_2031 | apply QQw_2032 | apply QQw_2033 | apply QQw_2034 | apply QQw_2035 | apply QQw_2048 | apply QQw_2049 | apply QQw_2050 | apply QQw_2051 | apply QQw_2052 | apply QQw_2053 | apply QQw_2054 | apply QQw_809 | apply QQw_810 | apply QQw_811 | apply QQw_812 | apply QQw_813 | apply QQ_J | refine QQ_n (by assumption) ?_ | refine QQ_sm (by assumption) (by decide) (by decide +kernel) ?_)) (by first | omega | (simp only [zuI_1, zuI_2, zuJ_1, zuJ_2, zuJ_3, zuP_1, zuP_2, zuP_3, zuC_1, zuC_2, reduceIte, Nat.reduceEqDiff, false_and, and_false, true_and, and_true, and_self, or_true, true_or, or_false, false_or]; omega))) (zwk_s rfl (zwk_s rfl (zwk_s rfl (zwk_s rfl (zwk_s rfl (zwk_n (zwk_n zwk_0)))))))
      exact zs_wk (L45 _ _ _ (by omega) zsm_rf (by exact hZ) (Nat.lt_succ_self _)) (zwk_s rfl (zwk_s rfl (zwk_s rfl (zwk_s rfl (zwk_s rfl (zwk_n (zwk_n zwk_0)))))))
    · skip
      have hncb : ¬ wCanB A W p := fun q => by have q1 := q.1; have q2 := q.2; have := hq22.2; omega
      refine zs_iconst (pc := 40) C dX7_bakeOne_40 (by decide) ?_
      exact zs_zret (pc := 41) C hr hlk dX7_bakeOne_41 (by omega) ⟨by repeat (first | exact zsm_rf | assumption | refine zsm_C (by decide) ?_ | refine zsm_I (by decide) ?_ | refine zsm_J ?_ | refine zsm_c (by assumption) (by decide) ?_), ⟨by unfold wBake; rw [if_neg hncb]; exact hZ, Or.inl rfl, fun q => absurd q (by decide), fun q => absurd q hncb⟩⟩

set_option maxHeartbeats 4000000 in
set_option maxRecDepth 100000 in
theorem c_X7_unbakeK {l : Launch} {Γ : zΓ} {G : zH} {w t : Nat} {A W : aS} {p : Int} (hX : zXs Γ) (hZ : QQ Γ w t A W G) (hW : WI A W) (hp : 0 ≤ p ∧ p ≤ 4) (h17 : ∀ j : Nat, j < 300 → 0 ≤ W 17 j ∧ W 17 j ≤ 99)  : zMet l Γ yX7_unbake cX7_unbake 3 none 0 [zr 8 w, zi p] G (zpv (fun G' => zsm [2030, 2053] G G' ∧ QQ Γ w t A (wUnbake W p) G')) := by
  have hI := QQ_t hZ
  have h00 := hW.1
  refine zMet_of RX7 hX (by decide) rfl (Nat.le_of_ble_eq_true rfl) ?_
  intro px9 e s m args below meth c C hr hlk
  show Z px9 l e (zrm 0) s m args below meth c Γ 3 0 0 (MQ below (zQc Γ (zpv (fun G' => zsm [2030, 2053] G G' ∧ QQ Γ w t A (wUnbake W p) G'))) args s 0 0 (zA Γ)) 0 [some (zr 8 w), some (zi p), none] [] G
  refine zs_loc 1 rfl (fun ha1 hb1 => ?_)
  refine zs_iconst (pc := 0) C dX7_unbake_0 (by decide) ?_
  refine zs_istore_n (pc := 1) C dX7_unbake_1 (by decide) ?_
  dsimp only [zset, zclr, znone]
  have L2 : ∀ (nn : Nat) (x2 : Int) (G1 : zH), (0 ≤ x2 ∧ x2 ≤ W 0 0) → (zsm [2030, 2053] G G1) → (QQ Γ w t A (wUb W p x2.toNat) G1) → (60 - x2).toNat < nn → Z px9 l e (zrm 0) s m args below meth c Γ 3 0 0 (MQ below (zQc Γ (zpv (fun G' => zsm [2030, 2053] G G' ∧ QQ Γ w t A (wUnbake W p) G'))) args s 0 0 (zA Γ)) 2 [some (zr 8 w), some (zi p), some (zi x2)] [] G1 := by
    intro nn
    induction nn with
    | zero => intro x2 G1 h2_0 h2_1 h2_2 hm; exact absurd hm (Nat.not_lt_zero _)
    | succ nn ih2 =>
      intro x2 G1 h2_0 h2_1 h2_2 hm2
      refine zs_iload_n (pc := 2) C dX7_unbake_2 rfl ?_
      refine zs_aload_n (pc := 3) C dX7_unbake_3 rfl ?_
      refine zs_getf (pc := 4) C dX7_unbake_4 w_X7_12 f_8_1 (by decide) ?_
      refine zs_geti (r := 510) (pc := 7) C dX7_unbake_7 w_X7_48 f_5_10 rfl (r_510 0) (fun v7 e7 l7 u7 => ?_)
      try simp only [QQ_510 h2_2] at e7
      try subst v7
      have hu0 : (wUb W p x2.toNat) 0 0 = W 0 0 := wUb_f _ (Or.inl (by decide))
      refine zs_icmp_ge (tgt := 42) (pc := 10) C dX7_unbake_10 (by decide) (fun h10 => ?_) (fun h10 => ?_)
      · skip
        have hu0 : (wUb W p x2.toNat) 0 0 = W 0 0 := wUb_f _ (Or.inl (by decide))
        have hx2 : x2 = W 0 0 := by omega
        rw [hx2] at h2_2
        refine zs_aload_n (pc := 42) C dX7_unbake_42 rfl ?_
        refine zs_getf (pc := 43) C dX7_unbake_43 w_X7_34 f_8_7 (by decide) ?_
        refine zs_iload_n (pc := 46) C dX7_unbake_46 rfl ?_
        refine zs_iconst (pc := 47) C dX7_unbake_47 (by decide) ?_
        refine zs_iast (r := 2053) (pc := 48) C dX7_unbake_48 a_53 (by decide) (by omega) rfl (r_2053 _) (by omega) ?_
        exact zs_vret (pc := 49) C hr hlk dX7_unbake_49 ⟨by repeat (first | exact zsm_rf | assumption | refine zsm_C (by decide) ?_ | refine zsm_I (by decide) ?_ | refine zsm_J ?_ | refine zsm_c (by assumption) (by decide) ?_), by unfold wUnbake; repeat (first | assumption | apply QQw_510 | apply QQw_2026 | apply QQw_2027 | apply QQw_2028 | apply QQw_2029 | apply QQw_2030 | apply QQw_2031 | apply QQw_2032 | apply QQw_2033 | apply QQw_2034 | apply QQw_2035 | apply QQw_2048 | apply QQw_2049 | apply QQw_2050 | apply QQw_2051 | apply QQw_2052 | apply QQw_2053 | apply QQw_2054 | apply QQw_809 | apply QQw_810 | apply QQw_811 | apply QQw_812 | apply QQw_813 | apply QQ_J | refine QQ_n (by assumption) ?_ | refine QQ_sm (by assumption) (by decide) (by decide +kernel) ?_)⟩
      · skip
        refine zs_aload_n (pc := 13) C dX7_unbake_13 rfl ?_
        refine zs_getf (pc := 14) C dX7_unbake_14 w_X7_12 f_8_1 (by decide) ?_
        refine zs_getf (pc := 17) C dX7_unbake_17 w_X7_181 f_5_4 (by decide) ?_
        refine zs_iload_n (pc := 20) C dX7_unbake_20 rfl ?_
        refine zs_dup2 (pc := 21) C dX7_unbake_21 ?_
        refine zs_iald (r := 2030) (pc := 22) C dX7_unbake_22 a_30 (by decide) (by omega) rfl (r_2030 _) (fun v22 e22 l22 u22 => ?_)
        try simp only [QQ_2030 h2_2] at e22
        try subst v22
        refine zs_aload_n (pc := 23) C dX7_unbake_23 rfl ?_
        refine zs_getf (pc := 24) C dX7_unbake_24 w_X7_37 f_8_8 (by decide) ?_
        refine zs_iload_n (pc := 27) C dX7_unbake_27 rfl ?_
        refine zs_bipush (pc := 28) C dX7_unbake_28 (by decide) (by decide) ?_
        first | refine zs_imul (pc := 30) C dX7_unbake_30 (by omega) ?_ | refine zs_imulF (pc := 30) C dX7_unbake_30 (fun z30 hz301 hz302 => ?_)
        refine zs_iload_n (pc := 31) C dX7_unbake_31 rfl ?_
        first | refine zs_iadd (pc := 32) C dX7_unbake_32 (by omega) ?_ | refine zs_iaddF (pc := 32) C dX7_unbake_32 (fun z32 hz321 hz322 => ?_)
        refine zs_iald (r := 2054) (pc := 33) C dX7_unbake_33 a_54 (by decide) (by omega) rfl (r_2054 _) (fun v33 e33 l33 u33 => ?_)
        try simp only [QQ_2054 h2_2] at e33
        try subst v33
        have hu5 : (wUb W p x2.toNat) 5 x2.toNat = W 5 x2.toNat := wUb_f _ (Or.inr (Nat.le_refl _))
        have hu17 : (wUb W p x2.toNat) 17 (p * 60 + x2).toNat = W 17 (p * 60 + x2).toNat := wUb_f _ (Or.inl (by decide))
        rw [hu5, hu17]
        have hk5 := hW.2.1 x2.toNat (by omega)
        have hk17 := h17 (p * 60 + x2).toNat (by omega)
        first | refine zs_iadd (pc := 34) C dX7_unbake_34 (by omega) ?_ | refine zs_iaddF (pc := 34) C dX7_unbake_34 (fun z34 hz341 hz342 => ?_)
        refine zs_iast (r := 2030) (pc := 35) C dX7_unbake_35 a_30 (by decide) (by omega) rfl (r_2030 _) (by omega) ?_
        first | refine zs_iinc (pc := 36) C dX7_unbake_36 rfl (by decide) (by omega) ?_ | refine zs_iincF (pc := 36) C dX7_unbake_36 rfl (by decide) (fun z36 hz361 hz362 => ?_)
        dsimp only [zset, zclr, znone]
        refine zs_goto (tgt := 2) (pc := 39) C dX7_unbake_39 (by decide) ?_
        exact zs_wk (ih2 _ _ (by omega) (by repeat (first | exact zsm_rf | assumption | refine zsm_C (by decide) ?_ | refine zsm_I (by decide) ?_ | refine zsm_J ?_ | refine zsm_c (by assumption) (by decide) ?_)) (by rw [wUb_s (by omega) hp.1]; repeat (first | assumption | apply QQw_510 | apply QQw_2026 | apply QQw_2027 | apply QQw_2028 | apply QQw_2029 | apply QQw_2030 | apply QQw_2031 | apply QQw_2032 | apply QQw_2033 | apply QQw_2034 | apply QQw_2035 | apply QQw_2048 | apply QQw_2049 | apply QQw_2050 | apply QQw_2051 | apply QQw_2052 | apply QQw_2053 | apply QQw_2054 | apply QQw_809 | apply QQw_810 | apply QQw_811 | apply QQw_812 | apply QQw_813 | apply QQ_J | refine QQ_n (by assumption) ?_ | refine QQ_sm (by assumption) (by decide) (by decide +kernel) ?_)) (by first | omega | (simp only [zuI_1, zuI_2, zuJ_1, zuJ_2, zuJ_3, zuP_1, zuP_2, zuP_3, zuC_1, zuC_2, reduceIte, Nat.reduceEqDiff, false_and, and_false, true_and, and_true, and_self, or_true, true_or, or_false, false_or]; omega))) (zwk_s rfl (zwk_s rfl (zwk_s rfl zwk_0)))
  exact zs_wk (L2 _ _ _ (by omega) zsm_rf (by exact hZ) (Nat.lt_succ_self _)) (zwk_s rfl (zwk_s rfl (zwk_s rfl zwk_0)))

set_option maxHeartbeats 4000000 in
set_option maxRecDepth 100000 in
theorem c_X7_bakeOfDayK {l : Launch} {Γ : zΓ} {G : zH} {w t : Nat} {A W : aS}  (hX : zXs Γ) (hZ : QQ Γ w t A W G) (hW : WI A W) (hT : TA A)  : zMet l Γ yX7_bakeOfDay cX7_bakeOfDay 2 none 2 [zr 8 w] G (zpv (fun G' => zsm [2054, 2030, 2053] G G' ∧ QQ Γ w t A (wBd A (A 4 2).toNat W) G')) := by
  have hI := QQ_t hZ
  have h0 := hT.1
  refine zMet_of RX7 hX (by decide) rfl (Nat.le_of_ble_eq_true rfl) ?_
  intro p e s m args below meth c C hr hlk
  show Z p l e (zrm 2) s m args below meth c Γ 2 0 0 (MQ below (zQc Γ (zpv (fun G' => zsm [2054, 2030, 2053] G G' ∧ QQ Γ w t A (wBd A (A 4 2).toNat W) G'))) args s 0 0 (zA Γ)) 0 [some (zr 8 w), none] [] G
  refine zs_iconst (pc := 0) C dX7_bakeOfDay_0 (by decide) ?_
  refine zs_istore_n (pc := 1) C dX7_bakeOfDay_1 (by decide) ?_
  dsimp only [zset, zclr, znone]
  have L2 : ∀ (nn : Nat) (x1 : Int) (G1 : zH), (0 ≤ x1 ∧ x1 ≤ A 4 2) → (zsm [2054, 2030, 2053] G G1) → (QQ Γ w t A (wBd A x1.toNat W) G1) → (5 - x1).toNat < nn → Z p l e (zrm 2) s m args below meth c Γ 2 0 0 (MQ below (zQc Γ (zpv (fun G' => zsm [2054, 2030, 2053] G G' ∧ QQ Γ w t A (wBd A (A 4 2).toNat W) G'))) args s 0 0 (zA Γ)) 2 [some (zr 8 w), some (zi x1)] [] G1 := by
    intro nn
    induction nn with
    | zero => intro x1 G1 h2_0 h2_1 h2_2 hm; exact absurd hm (Nat.not_lt_zero _)
    | succ nn ih2 =>
      intro x1 G1 h2_0 h2_1 h2_2 hm2
      refine zs_iload_n (pc := 2) C dX7_bakeOfDay_2 rfl ?_
      refine zs_aload_n (pc := 3) C dX7_bakeOfDay_3 rfl ?_
      refine zs_getd (r := 800) (pc := 4) C dX7_bakeOfDay_4 w_X7_40 f_8_0 (by decide) rfl (fun v4 e4 t4 => ?_)
      try simp only [h2_1.2, zuI_1, zuI_2, zuJ_1, zuJ_2, zuJ_3, zuP_1, zuP_2, zuP_3, zuC_1, zuC_2, reduceIte, Nat.reduceEqDiff, false_and, and_false, true_and, and_true, and_self, or_true, true_or, or_false, false_or] at e4
      rw [hI] at e4
      subst v4
      refine zs_getf (pc := 7) C dX7_bakeOfDay_7 w_X7_95 f_6_2 (by decide) ?_
      refine zs_iconst (pc := 10) C dX7_bakeOfDay_10 (by decide) ?_
      refine zs_iald (r := 2037) (pc := 11) C dX7_bakeOfDay_11 a_37 (by decide) (by omega) rfl rfl (fun v11 e11 l11 u11 => ?_)
      try simp only [QQ_2037 h2_2, Int.reduceToNat] at e11
      try subst v11
      refine zs_icmp_ge (tgt := 43) (pc := 12) C dX7_bakeOfDay_12 (by decide) (fun h12 => ?_) (fun h12 => ?_)
      · skip
        have hx1 : x1 = A 4 2 := by omega
        rw [hx1] at h2_2
        exact zs_vret (pc := 43) C hr hlk dX7_bakeOfDay_43 ⟨h2_1, h2_2⟩
      · skip
        have hbd := WI_bd hT hW x1.toNat (by omega)
        have hbs := wBd_s (A := A) (W := W) (k := x1) (by omega)
        refine zs_aload_n (pc := 15) C dX7_bakeOfDay_15 rfl ?_
        refine zs_getd (r := 800) (pc := 16) C dX7_bakeOfDay_16 w_X7_40 f_8_0 (by decide) rfl (fun v16 e16 t16 => ?_)
        try simp only [h2_1.2, zuI_1, zuI_2, zuJ_1, zuJ_2, zuJ_3, zuP_1, zuP_2, zuP_3, zuC_1, zuC_2, reduceIte, Nat.reduceEqDiff, false_and, and_false, true_and, and_true, and_self, or_true, true_or, or_false, false_or] at e16
        rw [hI] at e16
        subst v16
        refine zs_getf (pc := 19) C dX7_bakeOfDay_19 w_X7_241 f_6_8 (by decide) ?_
        refine zs_iload_n (pc := 22) C dX7_bakeOfDay_22 rfl ?_
        refine zs_iald (r := 2043) (pc := 23) C dX7_bakeOfDay_23 a_43 (by decide) (by omega) rfl (r_2043 _) (fun v23 e23 l23 u23 => ?_)
        try simp only [QQ_2043 h2_2] at e23
        try subst v23
        refine zs_aload_n (pc := 24) C dX7_bakeOfDay_24 rfl ?_
        refine zs_geti (r := 809) (pc := 25) C dX7_bakeOfDay_25 w_X7_69 f_8_9 rfl (r_809 0) (fun v25 e25 l25 u25 => ?_)
        try simp only [QQ_809 h2_2] at e25
        try subst v25
        refine zs_icmp_ne (tgt := 37) (pc := 28) C dX7_bakeOfDay_28 (by decide) (fun h28 => ?_) (fun h28 => ?_)
        · skip
          rw [if_neg (by omega)] at hbs
          first | refine zs_iinc (pc := 37) C dX7_bakeOfDay_37 rfl (by decide) (by omega) ?_ | refine zs_iincF (pc := 37) C dX7_bakeOfDay_37 rfl (by decide) (fun z37 hz371 hz372 => ?_)
          dsimp only [zset, zclr, znone]
          refine zs_goto (tgt := 2) (pc := 40) C dX7_bakeOfDay_40 (by decide) ?_
          exact zs_wk (ih2 _ _ (by omega) (by repeat (first | exact zsm_rf | assumption | refine zsm_C (by decide) ?_ | refine zsm_I (by decide) ?_ | refine zsm_J ?_ | refine zsm_c (by assumption) (by decide) ?_)) (by rw [hbs]; first | exact hZ33 | exact h2_2) (by first | omega | (simp only [zuI_1, zuI_2, zuJ_1, zuJ_2, zuJ_3, zuP_1, zuP_2, zuP_3, zuC_1, zuC_2, reduceIte, Nat.reduceEqDiff, false_and, and_false, true_and, and_true, and_self, or_true, true_or, or_false, false_or]; omega))) (zwk_s rfl (zwk_s rfl zwk_0))
        · skip
          rw [if_pos (by omega)] at hbs
          refine zs_aload_n (pc := 31) C dX7_bakeOfDay_31 rfl ?_
          refine zs_iload_n (pc := 32) C dX7_bakeOfDay_32 rfl ?_
          refine zVi1 (pc := 33) C dX7_bakeOfDay_33 v_X7_244 (c_X7_bakeOneK hX h2_2 hbd.1 hT (by omega) (by omega)) (by decide) (by decide) ⟨Nat.zero_le _, Nat.zero_le _⟩ (Nat.le_of_ble_eq_true rfl) (fun x33 G33 l33 u33 hp33 => ?_)
          obtain ⟨hz33, hq33⟩ := hp33
          have hZ33 := hq33.1
          have hX33 := hq33.2
          refine zs_popi (pc := 36) C dX7_bakeOfDay_36 ?_
          first | refine zs_iinc (pc := 37) C dX7_bakeOfDay_37 rfl (by decide) (by omega) ?_ | refine zs_iincF (pc := 37) C dX7_bakeOfDay_37 rfl (by decide) (fun z37 hz371 hz372 => ?_)
          dsimp only [zset, zclr, znone]
          refine zs_goto (tgt := 2) (pc := 40) C dX7_bakeOfDay_40 (by decide) ?_
          exact zs_wk (ih2 _ _ (by omega) (by repeat (first | exact zsm_rf | assumption | refine zsm_C (by decide) ?_ | refine zsm_I (by decide) ?_ | refine zsm_J ?_ | refine zsm_c (by assumption) (by decide) ?_)) (by rw [hbs]; first | exact hZ33 | exact h2_2) (by first | omega | (simp only [zuI_1, zuI_2, zuJ_1, zuJ_2, zuJ_3, zuP_1, zuP_2, zuP_3, zuC_1, zuC_2, reduceIte, Nat.reduceEqDiff, false_and, and_false, true_and, and_true, and_self, or_true, true_or, or_false, false_or]; omega))) (zwk_s rfl (zwk_s rfl zwk_0))
  exact zs_wk (L2 _ _ _ (by omega) zsm_rf (by exact hZ) (Nat.lt_succ_self _)) (zwk_s rfl (zwk_s rfl zwk_0))

set_option maxHeartbeats 4000000 in
set_option maxRecDepth 100000 in
theorem c_X7_urgeOfK {l : Launch} {Γ : zΓ} {G : zH} {w t : Nat} {A W : aS} {p s k i : Int} (hX : zXs Γ) (hZ : QQ Γ w t A W G) (hW : WI A W) (hT : TA A) (hp : 0 ≤ p ∧ p ≤ 4) (hs : 0 ≤ s ∧ s ≤ 3) (hps : p < A 4 1 ∧ s < A 4 0)  : zMet l Γ yX7_urgeOf cX7_urgeOf 7 (some .long) 3 [zr 8 w, zi p, zi s, zi k, zi i] G (zpj (fun x G' => zsm [] G G' ∧ (x = wUrge A W p s k i))) := by
  have hI := QQ_t hZ
  refine zMet_of RX7 hX (by decide) rfl (Nat.le_of_ble_eq_true rfl) ?_
  intro px9 e sx9 m args below meth c C hr hlk
  show Z px9 l e (zrm 3) sx9 m args below meth c Γ 7 0 0 (MQ below (zQc Γ (zpj (fun x G' => zsm [] G G' ∧ (x = wUrge A W p s k i)))) args sx9 0 0 (zA Γ)) 0 [some (zr 8 w), some (zi p), some (zi s), some (zi k), some (zi i), none, none] [] G
  refine zs_loc 1 rfl (fun ha1 hb1 => ?_)
  refine zs_loc 2 rfl (fun ha2 hb2 => ?_)
  refine zs_loc 3 rfl (fun ha3 hb3 => ?_)
  refine zs_loc 4 rfl (fun ha4 hb4 => ?_)
  have hv6 := hT.2.1 s.toNat (by omega)
  refine zs_iload_n (pc := 0) C dX7_urgeOf_0 rfl ?_
  refine zs_iconst (pc := 1) C dX7_urgeOf_1 (by decide) ?_
  refine zs_icmp_ne (tgt := 11) (pc := 2) C dX7_urgeOf_2 (by decide) (fun h2 => ?_) (fun h2 => ?_)
  · skip
    refine zs_iload_n (pc := 11) C dX7_urgeOf_11 rfl ?_
    refine zs_iconst (pc := 12) C dX7_urgeOf_12 (by decide) ?_
    refine zs_icmp_ne (tgt := 24) (pc := 13) C dX7_urgeOf_13 (by decide) (fun h13 => ?_) (fun h13 => ?_)
    · skip
      refine zs_iload_n (pc := 24) C dX7_urgeOf_24 rfl ?_
      refine zs_iconst (pc := 25) C dX7_urgeOf_25 (by decide) ?_
      refine zs_icmp_ne (tgt := 43) (pc := 26) C dX7_urgeOf_26 (by decide) (fun h26 => ?_) (fun h26 => ?_)
      · skip
        refine zs_iload_n (pc := 43) C dX7_urgeOf_43 rfl ?_
        refine zs_iconst (pc := 44) C dX7_urgeOf_44 (by decide) ?_
        refine zs_icmp_eq (tgt := 62) (pc := 45) C dX7_urgeOf_45 (by decide) (fun h45 => ?_) (fun h45 => ?_)
        · skip
          refine zs_aload_n (pc := 62) C dX7_urgeOf_62 rfl ?_
          refine zs_getd (r := 800) (pc := 63) C dX7_urgeOf_63 w_X7_40 f_8_0 (by decide) rfl (fun v63 e63 t63 => ?_)
          rw [hI] at e63
          subst v63
          refine zs_getf (pc := 66) C dX7_urgeOf_66 w_X7_98 f_6_3 (by decide) ?_
          refine zs_iload_n (pc := 69) C dX7_urgeOf_69 rfl ?_
          refine zs_iald (r := 2038) (pc := 70) C dX7_urgeOf_70 a_38 (by decide) (by omega) rfl (r_2038 _) (fun v70 e70 l70 u70 => ?_)
          try simp only [QQ_2038 hZ] at e70
          try subst v70
          refine zs_i2l (pc := 71) C dX7_urgeOf_71 ?_
          exact zs_lret (pc := 72) C hr hlk dX7_urgeOf_72 ⟨by repeat (first | exact zsm_rf | assumption | refine zsm_C (by decide) ?_ | refine zsm_I (by decide) ?_ | refine zsm_J ?_ | refine zsm_c (by assumption) (by decide) ?_), (by unfold wUrge; (repeat' split) <;> first | rfl | omega)⟩
        · skip
          refine zs_aload_n (pc := 48) C dX7_urgeOf_48 rfl ?_
          refine zs_getd (r := 800) (pc := 49) C dX7_urgeOf_49 w_X7_40 f_8_0 (by decide) rfl (fun v49 e49 t49 => ?_)
          rw [hI] at e49
          subst v49
          refine zs_getf (pc := 52) C dX7_urgeOf_52 w_X7_105 f_6_0 (by decide) ?_
          refine zs_iconst (pc := 55) C dX7_urgeOf_55 (by decide) ?_
          refine zVip1 (pc := 56) C dX7_urgeOf_56 v_X7_255 (c_X1_isToldK hX hZ.2.1) (by decide) (by decide) ⟨Nat.zero_le _, Nat.zero_le _⟩ (Nat.le_of_ble_eq_true rfl) (fun x56 l56 u56 hp56 => ?_)
          have hq56 := hp56
          have hT56 : x56 = 1 ↔ A 16 2 < A 17 2 := ⟨fun q => (hq56.2.mp q).2.2, fun q => hq56.2.mpr ⟨by decide, by decide, q⟩⟩
          have hT01 := hq56.1
          refine zs_if_ne (tgt := 73) (pc := 59) C dX7_urgeOf_59 (by decide) (fun h59 => ?_) (fun h59 => ?_)
          · skip
            refine zs_aload_n (pc := 73) C dX7_urgeOf_73 rfl ?_
            refine zs_iconst (pc := 74) C dX7_urgeOf_74 (by decide) ?_
            refine zs_iload_n (pc := 75) C dX7_urgeOf_75 rfl ?_
            refine zs_iload_n (pc := 76) C dX7_urgeOf_76 rfl ?_
            refine zVj3 (pc := 77) C dX7_urgeOf_77 v_X7_258 (c_X7_valueOfK hX hZ hW hT hp hs hps (by omega)) (by decide) (by decide) ⟨Nat.zero_le _, Nat.zero_le _⟩ (Nat.le_of_ble_eq_true rfl) (fun x77 G77 l77 u77 hp77 => ?_)
            obtain ⟨hz77, hq77⟩ := hp77
            first | have hZ77 := QQ_n hz77 hZ | have hZ77 := QQ_n hz77 hZ1
            refine zs_lstore (pc := 80) C dX7_urgeOf_80 (by decide) ?_
            dsimp only [zset, zclr, znone]
            refine zs_lload (pc := 82) C dX7_urgeOf_82 rfl ?_
            refine zs_ldc2 (n := -9223372036854775808) (pc := 84) C dX7_urgeOf_84 q_X7_194 (by decide) (by decide) ?_
            refine zs_lcmp (pc := 87) C dX7_urgeOf_87 (fun z87 hz87 => ?_)
            refine zs_if_ne (tgt := 95) (pc := 88) C dX7_urgeOf_88 (by decide) (fun h88 => ?_) (fun h88 => ?_)
            · skip
              refine zs_lload (pc := 95) C dX7_urgeOf_95 rfl ?_
              exact zs_lret (pc := 97) C hr hlk dX7_urgeOf_97 ⟨by repeat (first | exact zsm_rf | assumption | refine zsm_C (by decide) ?_ | refine zsm_I (by decide) ?_ | refine zsm_J ?_ | refine zsm_c (by assumption) (by decide) ?_), (by unfold wUrge; (repeat' split) <;> first | rfl | omega)⟩
            · skip
              refine zs_lconst (n := 0) (pc := 91) C dX7_urgeOf_91 rfl (by decide) ?_
              refine zs_goto (tgt := 97) (pc := 92) C dX7_urgeOf_92 (by decide) ?_
              exact zs_lret (pc := 97) C hr hlk dX7_urgeOf_97 ⟨by repeat (first | exact zsm_rf | assumption | refine zsm_C (by decide) ?_ | refine zsm_I (by decide) ?_ | refine zsm_J ?_ | refine zsm_c (by assumption) (by decide) ?_), (by unfold wUrge; (repeat' split) <;> first | rfl | omega)⟩
          · skip
            refine zs_aload_n (pc := 62) C dX7_urgeOf_62 rfl ?_
            refine zs_getd (r := 800) (pc := 63) C dX7_urgeOf_63 w_X7_40 f_8_0 (by decide) rfl (fun v63 e63 t63 => ?_)
            rw [hI] at e63
            subst v63
            refine zs_getf (pc := 66) C dX7_urgeOf_66 w_X7_98 f_6_3 (by decide) ?_
            refine zs_iload_n (pc := 69) C dX7_urgeOf_69 rfl ?_
            refine zs_iald (r := 2038) (pc := 70) C dX7_urgeOf_70 a_38 (by decide) (by omega) rfl (r_2038 _) (fun v70 e70 l70 u70 => ?_)
            try simp only [QQ_2038 hZ] at e70
            try subst v70
            refine zs_i2l (pc := 71) C dX7_urgeOf_71 ?_
            exact zs_lret (pc := 72) C hr hlk dX7_urgeOf_72 ⟨by repeat (first | exact zsm_rf | assumption | refine zsm_C (by decide) ?_ | refine zsm_I (by decide) ?_ | refine zsm_J ?_ | refine zsm_c (by assumption) (by decide) ?_), (by unfold wUrge; (repeat' split) <;> first | rfl | omega)⟩
      · skip
        refine zs_bipush (pc := 29) C dX7_urgeOf_29 (by decide) (by decide) ?_
        refine zs_aload_n (pc := 31) C dX7_urgeOf_31 rfl ?_
        refine zs_getd (r := 800) (pc := 32) C dX7_urgeOf_32 w_X7_40 f_8_0 (by decide) rfl (fun v32 e32 t32 => ?_)
        rw [hI] at e32
        subst v32
        refine zs_getf (pc := 35) C dX7_urgeOf_35 w_X7_98 f_6_3 (by decide) ?_
        refine zs_iload_n (pc := 38) C dX7_urgeOf_38 rfl ?_
        refine zs_iald (r := 2038) (pc := 39) C dX7_urgeOf_39 a_38 (by decide) (by omega) rfl (r_2038 _) (fun v39 e39 l39 u39 => ?_)
        try simp only [QQ_2038 hZ] at e39
        try subst v39
        first | refine zs_isub (pc := 40) C dX7_urgeOf_40 (by omega) ?_ | refine zs_isubF (pc := 40) C dX7_urgeOf_40 (fun z40 hz401 hz402 => ?_)
        refine zs_i2l (pc := 41) C dX7_urgeOf_41 ?_
        exact zs_lret (pc := 42) C hr hlk dX7_urgeOf_42 ⟨by repeat (first | exact zsm_rf | assumption | refine zsm_C (by decide) ?_ | refine zsm_I (by decide) ?_ | refine zsm_J ?_ | refine zsm_c (by assumption) (by decide) ?_), (by unfold wUrge; (repeat' split) <;> first | rfl | omega)⟩
    · skip
      refine zs_iload_n (pc := 16) C dX7_urgeOf_16 rfl ?_
      refine zs_iload (pc := 17) C dX7_urgeOf_17 rfl ?_
      refine zs_icmp_ne (tgt := 24) (pc := 19) C dX7_urgeOf_19 (by decide) (fun h19 => ?_) (fun h19 => ?_)
      · skip
        refine zs_iload_n (pc := 24) C dX7_urgeOf_24 rfl ?_
        refine zs_iconst (pc := 25) C dX7_urgeOf_25 (by decide) ?_
        refine zs_icmp_ne (tgt := 43) (pc := 26) C dX7_urgeOf_26 (by decide) (fun h26 => ?_) (fun h26 => ?_)
        · skip
          refine zs_iload_n (pc := 43) C dX7_urgeOf_43 rfl ?_
          refine zs_iconst (pc := 44) C dX7_urgeOf_44 (by decide) ?_
          refine zs_icmp_eq (tgt := 62) (pc := 45) C dX7_urgeOf_45 (by decide) (fun h45 => ?_) (fun h45 => ?_)
          · skip
            refine zs_aload_n (pc := 62) C dX7_urgeOf_62 rfl ?_
            refine zs_getd (r := 800) (pc := 63) C dX7_urgeOf_63 w_X7_40 f_8_0 (by decide) rfl (fun v63 e63 t63 => ?_)
            rw [hI] at e63
            subst v63
            refine zs_getf (pc := 66) C dX7_urgeOf_66 w_X7_98 f_6_3 (by decide) ?_
            refine zs_iload_n (pc := 69) C dX7_urgeOf_69 rfl ?_
            refine zs_iald (r := 2038) (pc := 70) C dX7_urgeOf_70 a_38 (by decide) (by omega) rfl (r_2038 _) (fun v70 e70 l70 u70 => ?_)
            try simp only [QQ_2038 hZ] at e70
            try subst v70
            refine zs_i2l (pc := 71) C dX7_urgeOf_71 ?_
            exact zs_lret (pc := 72) C hr hlk dX7_urgeOf_72 ⟨by repeat (first | exact zsm_rf | assumption | refine zsm_C (by decide) ?_ | refine zsm_I (by decide) ?_ | refine zsm_J ?_ | refine zsm_c (by assumption) (by decide) ?_), (by unfold wUrge; (repeat' split) <;> first | rfl | omega)⟩
          · skip
            refine zs_aload_n (pc := 48) C dX7_urgeOf_48 rfl ?_
            refine zs_getd (r := 800) (pc := 49) C dX7_urgeOf_49 w_X7_40 f_8_0 (by decide) rfl (fun v49 e49 t49 => ?_)
            rw [hI] at e49
            subst v49
            refine zs_getf (pc := 52) C dX7_urgeOf_52 w_X7_105 f_6_0 (by decide) ?_
            refine zs_iconst (pc := 55) C dX7_urgeOf_55 (by decide) ?_
            refine zVip1 (pc := 56) C dX7_urgeOf_56 v_X7_255 (c_X1_isToldK hX hZ.2.1) (by decide) (by decide) ⟨Nat.zero_le _, Nat.zero_le _⟩ (Nat.le_of_ble_eq_true rfl) (fun x56 l56 u56 hp56 => ?_)
            have hq56 := hp56
            have hT56 : x56 = 1 ↔ A 16 2 < A 17 2 := ⟨fun q => (hq56.2.mp q).2.2, fun q => hq56.2.mpr ⟨by decide, by decide, q⟩⟩
            have hT01 := hq56.1
            refine zs_if_ne (tgt := 73) (pc := 59) C dX7_urgeOf_59 (by decide) (fun h59 => ?_) (fun h59 => ?_)
            · skip
              refine zs_aload_n (pc := 73) C dX7_urgeOf_73 rfl ?_
              refine zs_iconst (pc := 74) C dX7_urgeOf_74 (by decide) ?_
              refine zs_iload_n (pc := 75) C dX7_urgeOf_75 rfl ?_
              refine zs_iload_n (pc := 76) C dX7_urgeOf_76 rfl ?_
              refine zVj3 (pc := 77) C dX7_urgeOf_77 v_X7_258 (c_X7_valueOfK hX hZ hW hT hp hs hps (by omega)) (by decide) (by decide) ⟨Nat.zero_le _, Nat.zero_le _⟩ (Nat.le_of_ble_eq_true rfl) (fun x77 G77 l77 u77 hp77 => ?_)
              obtain ⟨hz77, hq77⟩ := hp77
              first | have hZ77 := QQ_n hz77 hZ | have hZ77 := QQ_n hz77 hZ1
              refine zs_lstore (pc := 80) C dX7_urgeOf_80 (by decide) ?_
              dsimp only [zset, zclr, znone]
              refine zs_lload (pc := 82) C dX7_urgeOf_82 rfl ?_
              refine zs_ldc2 (n := -9223372036854775808) (pc := 84) C dX7_urgeOf_84 q_X7_194 (by decide) (by decide) ?_
              refine zs_lcmp (pc := 87) C dX7_urgeOf_87 (fun z87 hz87 => ?_)
              refine zs_if_ne (tgt := 95) (pc := 88) C dX7_urgeOf_88 (by decide) (fun h88 => ?_) (fun h88 => ?_)
              · skip
                refine zs_lload (pc := 95) C dX7_urgeOf_95 rfl ?_
                exact zs_lret (pc := 97) C hr hlk dX7_urgeOf_97 ⟨by repeat (first | exact zsm_rf | assumption | refine zsm_C (by decide) ?_ | refine zsm_I (by decide) ?_ | refine zsm_J ?_ | refine zsm_c (by assumption) (by decide) ?_), (by unfold wUrge; (repeat' split) <;> first | rfl | omega)⟩
              · skip
                refine zs_lconst (n := 0) (pc := 91) C dX7_urgeOf_91 rfl (by decide) ?_
                refine zs_goto (tgt := 97) (pc := 92) C dX7_urgeOf_92 (by decide) ?_
                exact zs_lret (pc := 97) C hr hlk dX7_urgeOf_97 ⟨by repeat (first | exact zsm_rf | assumption | refine zsm_C (by decide) ?_ | refine zsm_I (by decide) ?_ | refine zsm_J ?_ | refine zsm_c (by assumption) (by decide) ?_), (by unfold wUrge; (repeat' split) <;> first | rfl | omega)⟩
            · skip
              refine zs_aload_n (pc := 62) C dX7_urgeOf_62 rfl ?_
              refine zs_getd (r := 800) (pc := 63) C dX7_urgeOf_63 w_X7_40 f_8_0 (by decide) rfl (fun v63 e63 t63 => ?_)
              rw [hI] at e63
              subst v63
              refine zs_getf (pc := 66) C dX7_urgeOf_66 w_X7_98 f_6_3 (by decide) ?_
              refine zs_iload_n (pc := 69) C dX7_urgeOf_69 rfl ?_
              refine zs_iald (r := 2038) (pc := 70) C dX7_urgeOf_70 a_38 (by decide) (by omega) rfl (r_2038 _) (fun v70 e70 l70 u70 => ?_)
              try simp only [QQ_2038 hZ] at e70
              try subst v70
              refine zs_i2l (pc := 71) C dX7_urgeOf_71 ?_
              exact zs_lret (pc := 72) C hr hlk dX7_urgeOf_72 ⟨by repeat (first | exact zsm_rf | assumption | refine zsm_C (by decide) ?_ | refine zsm_I (by decide) ?_ | refine zsm_J ?_ | refine zsm_c (by assumption) (by decide) ?_), (by unfold wUrge; (repeat' split) <;> first | rfl | omega)⟩
        · skip
          refine zs_bipush (pc := 29) C dX7_urgeOf_29 (by decide) (by decide) ?_
          refine zs_aload_n (pc := 31) C dX7_urgeOf_31 rfl ?_
          refine zs_getd (r := 800) (pc := 32) C dX7_urgeOf_32 w_X7_40 f_8_0 (by decide) rfl (fun v32 e32 t32 => ?_)
          rw [hI] at e32
          subst v32
          refine zs_getf (pc := 35) C dX7_urgeOf_35 w_X7_98 f_6_3 (by decide) ?_
          refine zs_iload_n (pc := 38) C dX7_urgeOf_38 rfl ?_
          refine zs_iald (r := 2038) (pc := 39) C dX7_urgeOf_39 a_38 (by decide) (by omega) rfl (r_2038 _) (fun v39 e39 l39 u39 => ?_)
          try simp only [QQ_2038 hZ] at e39
          try subst v39
          first | refine zs_isub (pc := 40) C dX7_urgeOf_40 (by omega) ?_ | refine zs_isubF (pc := 40) C dX7_urgeOf_40 (fun z40 hz401 hz402 => ?_)
          refine zs_i2l (pc := 41) C dX7_urgeOf_41 ?_
          exact zs_lret (pc := 42) C hr hlk dX7_urgeOf_42 ⟨by repeat (first | exact zsm_rf | assumption | refine zsm_C (by decide) ?_ | refine zsm_I (by decide) ?_ | refine zsm_J ?_ | refine zsm_c (by assumption) (by decide) ?_), (by unfold wUrge; (repeat' split) <;> first | rfl | omega)⟩
      · skip
        refine zs_lconst (n := 0) (pc := 22) C dX7_urgeOf_22 rfl (by decide) ?_
        exact zs_lret (pc := 23) C hr hlk dX7_urgeOf_23 ⟨by repeat (first | exact zsm_rf | assumption | refine zsm_C (by decide) ?_ | refine zsm_I (by decide) ?_ | refine zsm_J ?_ | refine zsm_c (by assumption) (by decide) ?_), (by unfold wUrge; (repeat' split) <;> first | rfl | omega)⟩
  · skip
    refine zs_iload_n (pc := 5) C dX7_urgeOf_5 rfl ?_
    refine zs_iload (pc := 6) C dX7_urgeOf_6 rfl ?_
    refine zs_icmp_eq (tgt := 22) (pc := 8) C dX7_urgeOf_8 (by decide) (fun h8 => ?_) (fun h8 => ?_)
    · skip
      refine zs_lconst (n := 0) (pc := 22) C dX7_urgeOf_22 rfl (by decide) ?_
      exact zs_lret (pc := 23) C hr hlk dX7_urgeOf_23 ⟨by repeat (first | exact zsm_rf | assumption | refine zsm_C (by decide) ?_ | refine zsm_I (by decide) ?_ | refine zsm_J ?_ | refine zsm_c (by assumption) (by decide) ?_), (by unfold wUrge; (repeat' split) <;> first | rfl | omega)⟩
    · skip
      refine zs_iload_n (pc := 11) C dX7_urgeOf_11 rfl ?_
      refine zs_iconst (pc := 12) C dX7_urgeOf_12 (by decide) ?_
      refine zs_icmp_ne (tgt := 24) (pc := 13) C dX7_urgeOf_13 (by decide) (fun h13 => ?_) (fun h13 => ?_)
      · skip
        refine zs_iload_n (pc := 24) C dX7_urgeOf_24 rfl ?_
        refine zs_iconst (pc := 25) C dX7_urgeOf_25 (by decide) ?_
        refine zs_icmp_ne (tgt := 43) (pc := 26) C dX7_urgeOf_26 (by decide) (fun h26 => ?_) (fun h26 => ?_)
        · skip
          refine zs_iload_n (pc := 43) C dX7_urgeOf_43 rfl ?_
          refine zs_iconst (pc := 44) C dX7_urgeOf_44 (by decide) ?_
          refine zs_icmp_eq (tgt := 62) (pc := 45) C dX7_urgeOf_45 (by decide) (fun h45 => ?_) (fun h45 => ?_)
          · skip
            refine zs_aload_n (pc := 62) C dX7_urgeOf_62 rfl ?_
            refine zs_getd (r := 800) (pc := 63) C dX7_urgeOf_63 w_X7_40 f_8_0 (by decide) rfl (fun v63 e63 t63 => ?_)
            rw [hI] at e63
            subst v63
            refine zs_getf (pc := 66) C dX7_urgeOf_66 w_X7_98 f_6_3 (by decide) ?_
            refine zs_iload_n (pc := 69) C dX7_urgeOf_69 rfl ?_
            refine zs_iald (r := 2038) (pc := 70) C dX7_urgeOf_70 a_38 (by decide) (by omega) rfl (r_2038 _) (fun v70 e70 l70 u70 => ?_)
            try simp only [QQ_2038 hZ] at e70
            try subst v70
            refine zs_i2l (pc := 71) C dX7_urgeOf_71 ?_
            exact zs_lret (pc := 72) C hr hlk dX7_urgeOf_72 ⟨by repeat (first | exact zsm_rf | assumption | refine zsm_C (by decide) ?_ | refine zsm_I (by decide) ?_ | refine zsm_J ?_ | refine zsm_c (by assumption) (by decide) ?_), (by unfold wUrge; (repeat' split) <;> first | rfl | omega)⟩
          · skip
            refine zs_aload_n (pc := 48) C dX7_urgeOf_48 rfl ?_
            refine zs_getd (r := 800) (pc := 49) C dX7_urgeOf_49 w_X7_40 f_8_0 (by decide) rfl (fun v49 e49 t49 => ?_)
            rw [hI] at e49
            subst v49
            refine zs_getf (pc := 52) C dX7_urgeOf_52 w_X7_105 f_6_0 (by decide) ?_
            refine zs_iconst (pc := 55) C dX7_urgeOf_55 (by decide) ?_
            refine zVip1 (pc := 56) C dX7_urgeOf_56 v_X7_255 (c_X1_isToldK hX hZ.2.1) (by decide) (by decide) ⟨Nat.zero_le _, Nat.zero_le _⟩ (Nat.le_of_ble_eq_true rfl) (fun x56 l56 u56 hp56 => ?_)
            have hq56 := hp56
            have hT56 : x56 = 1 ↔ A 16 2 < A 17 2 := ⟨fun q => (hq56.2.mp q).2.2, fun q => hq56.2.mpr ⟨by decide, by decide, q⟩⟩
            have hT01 := hq56.1
            refine zs_if_ne (tgt := 73) (pc := 59) C dX7_urgeOf_59 (by decide) (fun h59 => ?_) (fun h59 => ?_)
            · skip
              refine zs_aload_n (pc := 73) C dX7_urgeOf_73 rfl ?_
              refine zs_iconst (pc := 74) C dX7_urgeOf_74 (by decide) ?_
              refine zs_iload_n (pc := 75) C dX7_urgeOf_75 rfl ?_
              refine zs_iload_n (pc := 76) C dX7_urgeOf_76 rfl ?_
              refine zVj3 (pc := 77) C dX7_urgeOf_77 v_X7_258 (c_X7_valueOfK hX hZ hW hT hp hs hps (by omega)) (by decide) (by decide) ⟨Nat.zero_le _, Nat.zero_le _⟩ (Nat.le_of_ble_eq_true rfl) (fun x77 G77 l77 u77 hp77 => ?_)
              obtain ⟨hz77, hq77⟩ := hp77
              first | have hZ77 := QQ_n hz77 hZ | have hZ77 := QQ_n hz77 hZ1
              refine zs_lstore (pc := 80) C dX7_urgeOf_80 (by decide) ?_
              dsimp only [zset, zclr, znone]
              refine zs_lload (pc := 82) C dX7_urgeOf_82 rfl ?_
              refine zs_ldc2 (n := -9223372036854775808) (pc := 84) C dX7_urgeOf_84 q_X7_194 (by decide) (by decide) ?_
              refine zs_lcmp (pc := 87) C dX7_urgeOf_87 (fun z87 hz87 => ?_)
              refine zs_if_ne (tgt := 95) (pc := 88) C dX7_urgeOf_88 (by decide) (fun h88 => ?_) (fun h88 => ?_)
              · skip
                refine zs_lload (pc := 95) C dX7_urgeOf_95 rfl ?_
                exact zs_lret (pc := 97) C hr hlk dX7_urgeOf_97 ⟨by repeat (first | exact zsm_rf | assumption | refine zsm_C (by decide) ?_ | refine zsm_I (by decide) ?_ | refine zsm_J ?_ | refine zsm_c (by assumption) (by decide) ?_), (by unfold wUrge; (repeat' split) <;> first | rfl | omega)⟩
              · skip
                refine zs_lconst (n := 0) (pc := 91) C dX7_urgeOf_91 rfl (by decide) ?_
                refine zs_goto (tgt := 97) (pc := 92) C dX7_urgeOf_92 (by decide) ?_
                exact zs_lret (pc := 97) C hr hlk dX7_urgeOf_97 ⟨by repeat (first | exact zsm_rf | assumption | refine zsm_C (by decide) ?_ | refine zsm_I (by decide) ?_ | refine zsm_J ?_ | refine zsm_c (by assumption) (by decide) ?_), (by unfold wUrge; (repeat' split) <;> first | rfl | omega)⟩
            · skip
              refine zs_aload_n (pc := 62) C dX7_urgeOf_62 rfl ?_
              refine zs_getd (r := 800) (pc := 63) C dX7_urgeOf_63 w_X7_40 f_8_0 (by decide) rfl (fun v63 e63 t63 => ?_)
              rw [hI] at e63
              subst v63
              refine zs_getf (pc := 66) C dX7_urgeOf_66 w_X7_98 f_6_3 (by decide) ?_
              refine zs_iload_n (pc := 69) C dX7_urgeOf_69 rfl ?_
              refine zs_iald (r := 2038) (pc := 70) C dX7_urgeOf_70 a_38 (by decide) (by omega) rfl (r_2038 _) (fun v70 e70 l70 u70 => ?_)
              try simp only [QQ_2038 hZ] at e70
              try subst v70
              refine zs_i2l (pc := 71) C dX7_urgeOf_71 ?_
              exact zs_lret (pc := 72) C hr hlk dX7_urgeOf_72 ⟨by repeat (first | exact zsm_rf | assumption | refine zsm_C (by decide) ?_ | refine zsm_I (by decide) ?_ | refine zsm_J ?_ | refine zsm_c (by assumption) (by decide) ?_), (by unfold wUrge; (repeat' split) <;> first | rfl | omega)⟩
        · skip
          refine zs_bipush (pc := 29) C dX7_urgeOf_29 (by decide) (by decide) ?_
          refine zs_aload_n (pc := 31) C dX7_urgeOf_31 rfl ?_
          refine zs_getd (r := 800) (pc := 32) C dX7_urgeOf_32 w_X7_40 f_8_0 (by decide) rfl (fun v32 e32 t32 => ?_)
          rw [hI] at e32
          subst v32
          refine zs_getf (pc := 35) C dX7_urgeOf_35 w_X7_98 f_6_3 (by decide) ?_
          refine zs_iload_n (pc := 38) C dX7_urgeOf_38 rfl ?_
          refine zs_iald (r := 2038) (pc := 39) C dX7_urgeOf_39 a_38 (by decide) (by omega) rfl (r_2038 _) (fun v39 e39 l39 u39 => ?_)
          try simp only [QQ_2038 hZ] at e39
          try subst v39
          first | refine zs_isub (pc := 40) C dX7_urgeOf_40 (by omega) ?_ | refine zs_isubF (pc := 40) C dX7_urgeOf_40 (fun z40 hz401 hz402 => ?_)
          refine zs_i2l (pc := 41) C dX7_urgeOf_41 ?_
          exact zs_lret (pc := 42) C hr hlk dX7_urgeOf_42 ⟨by repeat (first | exact zsm_rf | assumption | refine zsm_C (by decide) ?_ | refine zsm_I (by decide) ?_ | refine zsm_J ?_ | refine zsm_c (by assumption) (by decide) ?_), (by unfold wUrge; (repeat' split) <;> first | rfl | omega)⟩
      · skip
        refine zs_iload_n (pc := 16) C dX7_urgeOf_16 rfl ?_
        refine zs_iload (pc := 17) C dX7_urgeOf_17 rfl ?_
        refine zs_icmp_ne (tgt := 24) (pc := 19) C dX7_urgeOf_19 (by decide) (fun h19 => ?_) (fun h19 => ?_)
        · skip
          refine zs_iload_n (pc := 24) C dX7_urgeOf_24 rfl ?_
          refine zs_iconst (pc := 25) C dX7_urgeOf_25 (by decide) ?_
          refine zs_icmp_ne (tgt := 43) (pc := 26) C dX7_urgeOf_26 (by decide) (fun h26 => ?_) (fun h26 => ?_)
          · skip
            refine zs_iload_n (pc := 43) C dX7_urgeOf_43 rfl ?_
            refine zs_iconst (pc := 44) C dX7_urgeOf_44 (by decide) ?_
            refine zs_icmp_eq (tgt := 62) (pc := 45) C dX7_urgeOf_45 (by decide) (fun h45 => ?_) (fun h45 => ?_)
            · skip
              refine zs_aload_n (pc := 62) C dX7_urgeOf_62 rfl ?_
              refine zs_getd (r := 800) (pc := 63) C dX7_urgeOf_63 w_X7_40 f_8_0 (by decide) rfl (fun v63 e63 t63 => ?_)
              rw [hI] at e63
              subst v63
              refine zs_getf (pc := 66) C dX7_urgeOf_66 w_X7_98 f_6_3 (by decide) ?_
              refine zs_iload_n (pc := 69) C dX7_urgeOf_69 rfl ?_
              refine zs_iald (r := 2038) (pc := 70) C dX7_urgeOf_70 a_38 (by decide) (by omega) rfl (r_2038 _) (fun v70 e70 l70 u70 => ?_)
              try simp only [QQ_2038 hZ] at e70
              try subst v70
              refine zs_i2l (pc := 71) C dX7_urgeOf_71 ?_
              exact zs_lret (pc := 72) C hr hlk dX7_urgeOf_72 ⟨by repeat (first | exact zsm_rf | assumption | refine zsm_C (by decide) ?_ | refine zsm_I (by decide) ?_ | refine zsm_J ?_ | refine zsm_c (by assumption) (by decide) ?_), (by unfold wUrge; (repeat' split) <;> first | rfl | omega)⟩
            · skip
              refine zs_aload_n (pc := 48) C dX7_urgeOf_48 rfl ?_
              refine zs_getd (r := 800) (pc := 49) C dX7_urgeOf_49 w_X7_40 f_8_0 (by decide) rfl (fun v49 e49 t49 => ?_)
              rw [hI] at e49
              subst v49
              refine zs_getf (pc := 52) C dX7_urgeOf_52 w_X7_105 f_6_0 (by decide) ?_
              refine zs_iconst (pc := 55) C dX7_urgeOf_55 (by decide) ?_
              refine zVip1 (pc := 56) C dX7_urgeOf_56 v_X7_255 (c_X1_isToldK hX hZ.2.1) (by decide) (by decide) ⟨Nat.zero_le _, Nat.zero_le _⟩ (Nat.le_of_ble_eq_true rfl) (fun x56 l56 u56 hp56 => ?_)
              have hq56 := hp56
              have hT56 : x56 = 1 ↔ A 16 2 < A 17 2 := ⟨fun q => (hq56.2.mp q).2.2, fun q => hq56.2.mpr ⟨by decide, by decide, q⟩⟩
              have hT01 := hq56.1
              refine zs_if_ne (tgt := 73) (pc := 59) C dX7_urgeOf_59 (by decide) (fun h59 => ?_) (fun h59 => ?_)
              · skip
                refine zs_aload_n (pc := 73) C dX7_urgeOf_73 rfl ?_
                refine zs_iconst (pc := 74) C dX7_urgeOf_74 (by decide) ?_
                refine zs_iload_n (pc := 75) C dX7_urgeOf_75 rfl ?_
                refine zs_iload_n (pc := 76) C dX7_urgeOf_76 rfl ?_
                refine zVj3 (pc := 77) C dX7_urgeOf_77 v_X7_258 (c_X7_valueOfK hX hZ hW hT hp hs hps (by omega)) (by decide) (by decide) ⟨Nat.zero_le _, Nat.zero_le _⟩ (Nat.le_of_ble_eq_true rfl) (fun x77 G77 l77 u77 hp77 => ?_)
                obtain ⟨hz77, hq77⟩ := hp77
                first | have hZ77 := QQ_n hz77 hZ | have hZ77 := QQ_n hz77 hZ1
                refine zs_lstore (pc := 80) C dX7_urgeOf_80 (by decide) ?_
                dsimp only [zset, zclr, znone]
                refine zs_lload (pc := 82) C dX7_urgeOf_82 rfl ?_
                refine zs_ldc2 (n := -9223372036854775808) (pc := 84) C dX7_urgeOf_84 q_X7_194 (by decide) (by decide) ?_
                refine zs_lcmp (pc := 87) C dX7_urgeOf_87 (fun z87 hz87 => ?_)
                refine zs_if_ne (tgt := 95) (pc := 88) C dX7_urgeOf_88 (by decide) (fun h88 => ?_) (fun h88 => ?_)
                · skip
                  refine zs_lload (pc := 95) C dX7_urgeOf_95 rfl ?_
                  exact zs_lret (pc := 97) C hr hlk dX7_urgeOf_97 ⟨by repeat (first | exact zsm_rf | assumption | refine zsm_C (by decide) ?_ | refine zsm_I (by decide) ?_ | refine zsm_J ?_ | refine zsm_c (by assumption) (by decide) ?_), (by unfold wUrge; (repeat' split) <;> first | rfl | omega)⟩
                · skip
                  refine zs_lconst (n := 0) (pc := 91) C dX7_urgeOf_91 rfl (by decide) ?_
                  refine zs_goto (tgt := 97) (pc := 92) C dX7_urgeOf_92 (by decide) ?_
                  exact zs_lret (pc := 97) C hr hlk dX7_urgeOf_97 ⟨by repeat (first | exact zsm_rf | assumption | refine zsm_C (by decide) ?_ | refine zsm_I (by decide) ?_ | refine zsm_J ?_ | refine zsm_c (by assumption) (by decide) ?_), (by unfold wUrge; (repeat' split) <;> first | rfl | omega)⟩
              · skip
                refine zs_aload_n (pc := 62) C dX7_urgeOf_62 rfl ?_
                refine zs_getd (r := 800) (pc := 63) C dX7_urgeOf_63 w_X7_40 f_8_0 (by decide) rfl (fun v63 e63 t63 => ?_)
                rw [hI] at e63
                subst v63
                refine zs_getf (pc := 66) C dX7_urgeOf_66 w_X7_98 f_6_3 (by decide) ?_
                refine zs_iload_n (pc := 69) C dX7_urgeOf_69 rfl ?_
                refine zs_iald (r := 2038) (pc := 70) C dX7_urgeOf_70 a_38 (by decide) (by omega) rfl (r_2038 _) (fun v70 e70 l70 u70 => ?_)
                try simp only [QQ_2038 hZ] at e70
                try subst v70
                refine zs_i2l (pc := 71) C dX7_urgeOf_71 ?_
                exact zs_lret (pc := 72) C hr hlk dX7_urgeOf_72 ⟨by repeat (first | exact zsm_rf | assumption | refine zsm_C (by decide) ?_ | refine zsm_I (by decide) ?_ | refine zsm_J ?_ | refine zsm_c (by assumption) (by decide) ?_), (by unfold wUrge; (repeat' split) <;> first | rfl | omega)⟩
          · skip
            refine zs_bipush (pc := 29) C dX7_urgeOf_29 (by decide) (by decide) ?_
            refine zs_aload_n (pc := 31) C dX7_urgeOf_31 rfl ?_
            refine zs_getd (r := 800) (pc := 32) C dX7_urgeOf_32 w_X7_40 f_8_0 (by decide) rfl (fun v32 e32 t32 => ?_)
            rw [hI] at e32
            subst v32
            refine zs_getf (pc := 35) C dX7_urgeOf_35 w_X7_98 f_6_3 (by decide) ?_
            refine zs_iload_n (pc := 38) C dX7_urgeOf_38 rfl ?_
            refine zs_iald (r := 2038) (pc := 39) C dX7_urgeOf_39 a_38 (by decide) (by omega) rfl (r_2038 _) (fun v39 e39 l39 u39 => ?_)
            try simp only [QQ_2038 hZ] at e39
            try subst v39
            first | refine zs_isub (pc := 40) C dX7_urgeOf_40 (by omega) ?_ | refine zs_isubF (pc := 40) C dX7_urgeOf_40 (fun z40 hz401 hz402 => ?_)
            refine zs_i2l (pc := 41) C dX7_urgeOf_41 ?_
            exact zs_lret (pc := 42) C hr hlk dX7_urgeOf_42 ⟨by repeat (first | exact zsm_rf | assumption | refine zsm_C (by decide) ?_ | refine zsm_I (by decide) ?_ | refine zsm_J ?_ | refine zsm_c (by assumption) (by decide) ?_), (by unfold wUrge; (repeat' split) <;> first | rfl | omega)⟩
        · skip
          refine zs_lconst (n := 0) (pc := 22) C dX7_urgeOf_22 rfl (by decide) ?_
          exact zs_lret (pc := 23) C hr hlk dX7_urgeOf_23 ⟨by repeat (first | exact zsm_rf | assumption | refine zsm_C (by decide) ?_ | refine zsm_I (by decide) ?_ | refine zsm_J ?_ | refine zsm_c (by assumption) (by decide) ?_), (by unfold wUrge; (repeat' split) <;> first | rfl | omega)⟩

set_option maxHeartbeats 4000000 in
set_option maxRecDepth 100000 in
theorem c_X7_confessOfDayK {l : Launch} {Γ : zΓ} {G : zH} {w t : Nat} {A W : aS} {k i : Int} (hX : zXs Γ) (hZ : QQ Γ w t A W G) (hW : WI A W) (hT : TA A)  : zMet l Γ yX7_confessOfDay cX7_confessOfDay 9 none 4 [zr 8 w, zi k, zi i] G (zpv (fun G' => zsm [510, 2026, 2027, 2028, 2029, 2030, 2031, 2032, 2033, 2034, 2035, 810, 811, 2049, 2050, 2051] G G' ∧ QQ Γ w t A (wCod A W k i) G')) := by
  have hI := QQ_t hZ
  have h0 := hT.1
  refine zMet_of RX7 hX (by decide) rfl (Nat.le_of_ble_eq_true rfl) ?_
  intro p e s m args below meth c C hr hlk
  show Z p l e (zrm 4) s m args below meth c Γ 9 0 0 (MQ below (zQc Γ (zpv (fun G' => zsm [510, 2026, 2027, 2028, 2029, 2030, 2031, 2032, 2033, 2034, 2035, 810, 811, 2049, 2050, 2051] G G' ∧ QQ Γ w t A (wCod A W k i) G'))) args s 0 0 (zA Γ)) 0 [some (zr 8 w), some (zi k), some (zi i), none, none, none, none, none, none] [] G
  refine zs_loc 1 rfl (fun ha1 hb1 => ?_)
  refine zs_loc 2 rfl (fun ha2 hb2 => ?_)
  refine zs_iconst (pc := 0) C dX7_confessOfDay_0 (by decide) ?_
  refine zs_istore_n (pc := 1) C dX7_confessOfDay_1 (by decide) ?_
  dsimp only [zset, zclr, znone]
  refine zs_lconst (n := 0) (pc := 2) C dX7_confessOfDay_2 rfl (by decide) ?_
  refine zs_lstore (pc := 3) C dX7_confessOfDay_3 (by decide) ?_
  dsimp only [zset, zclr, znone]
  refine zs_iconst (pc := 5) C dX7_confessOfDay_5 (by decide) ?_
  refine zs_istore (pc := 6) C dX7_confessOfDay_6 (by decide) ?_
  dsimp only [zset, zclr, znone]
  have L8 : ∀ (nn : Nat) (x3 x4 x6 : Int) (G1 : zH), (0 ≤ x6 ∧ x6 ≤ A 4 1 * 4) → ((x3, x4) = wBest A W k i x6.toNat) → (zsm [] G G1) → (x6 = 0 ∨ wCan W) → (20 - x6).toNat < nn → Z p l e (zrm 4) s m args below meth c Γ 9 0 0 (MQ below (zQc Γ (zpv (fun G' => zsm [510, 2026, 2027, 2028, 2029, 2030, 2031, 2032, 2033, 2034, 2035, 810, 811, 2049, 2050, 2051] G G' ∧ QQ Γ w t A (wCod A W k i) G'))) args s 0 0 (zA Γ)) 8 [some (zr 8 w), some (zi k), some (zi i), some (zi x3), some (zj x4), none, some (zi x6), none, none] [] G1 := by
    intro nn
    induction nn with
    | zero => intro x3 x4 x6 G1 h8_0 h8_1 h8_2 h8_3 hm; exact absurd hm (Nat.not_lt_zero _)
    | succ nn ih8 =>
      intro x3 x4 x6 G1 h8_0 h8_1 h8_2 h8_3 hm8
      have hZ1 := QQ_n h8_2 hZ
      refine zs_iload (pc := 8) C dX7_confessOfDay_8 rfl ?_
      have J82 : ∀ (y3 : Int), ((wCan W ∧ y3 = (wBest A W k i (A 4 1 * 4).toNat).1) ∨ (¬ wCan W ∧ y3 = -1)) → Z p l e (zrm 4) s m args below meth c Γ 9 0 0 (MQ below (zQc Γ (zpv (fun G' => zsm [510, 2026, 2027, 2028, 2029, 2030, 2031, 2032, 2033, 2034, 2035, 810, 811, 2049, 2050, 2051] G G' ∧ QQ Γ w t A (wCod A W k i) G'))) args s 0 0 (zA Γ)) 82 [some (zr 8 w), some (zi k), some (zi i), some (zi y3), none, none, none, none, none] [] G1 := by
        intro y3 h82_0
        refine zs_iload_n (pc := 82) C dX7_confessOfDay_82 rfl ?_
        refine zs_iconst (pc := 83) C dX7_confessOfDay_83 (by decide) ?_
        refine zs_icmp_eq (tgt := 106) (pc := 84) C dX7_confessOfDay_84 (by decide) (fun h84 => ?_) (fun h84 => ?_)
        · skip
          exact zs_vret (pc := 106) C hr hlk dX7_confessOfDay_106 (by first | exact ⟨by repeat (first | exact zsm_rf | assumption | refine zsm_C (by decide) ?_ | refine zsm_I (by decide) ?_ | refine zsm_J ?_ | refine zsm_c (by assumption) (by decide) ?_), hZE⟩ | exact ⟨by repeat (first | exact zsm_rf | assumption | refine zsm_C (by decide) ?_ | refine zsm_I (by decide) ?_ | refine zsm_J ?_ | refine zsm_c (by assumption) (by decide) ?_), (by unfold wCod; rw [if_neg (fun q => by rcases h82_0 with z | z; exact q.2 (z.2.symm.trans h84); exact z.1 q.1)]; exact hZ1)⟩)
        · skip
          obtain ⟨hcan, hy⟩ := h82_0.resolve_right (fun q => by omega)
          have hbi := (wBest_in (A := A) (W := W) (t := k) (i := i) (A 4 1 * 4).toNat).resolve_left (fun z => by omega)
          rw [← hy] at hbi
          have hps6 := WI_ps hW (m := y3) (by omega) hbi.2.2.1
          refine zs_aload_n (pc := 87) C dX7_confessOfDay_87 rfl ?_
          refine zs_iload_n (pc := 88) C dX7_confessOfDay_88 rfl ?_
          refine zs_iconst (pc := 89) C dX7_confessOfDay_89 (by decide) ?_
          first | refine zs_idiv (pc := 90) C dX7_confessOfDay_90 (by omega) (by omega) (fun hz901 hz902 => ?_) | refine zs_idivF (pc := 90) C dX7_confessOfDay_90 (by omega) (fun z90 hz901 hz902 => ?_)
          refine zs_iload_n (pc := 91) C dX7_confessOfDay_91 rfl ?_
          refine zs_iconst (pc := 92) C dX7_confessOfDay_92 (by decide) ?_
          first | refine zs_irem (pc := 93) C dX7_confessOfDay_93 (by omega) (by omega) (fun hz931 hz932 => ?_) | refine zs_iremF (pc := 93) C dX7_confessOfDay_93 (by omega) (fun z93 hz931 hz932 => ?_)
          refine zs_iload_n (pc := 94) C dX7_confessOfDay_94 rfl ?_
          refine zs_if_eq (tgt := 102) (pc := 95) C dX7_confessOfDay_95 (by decide) (fun h95 => ?_) (fun h95 => ?_)
          · skip
            have hk : (if k = 0 then (0 : Int) else 1) = 0 := if_pos h95
            refine zs_iconst (pc := 102) C dX7_confessOfDay_102 (by decide) ?_
            refine zVv3 (pc := 103) C dX7_confessOfDay_103 v_X7_251 (c_X7_grindOneK hX hZ1 hW hT (by omega) (by omega) (by omega) (by omega)) (by decide) (by decide) ⟨Nat.zero_le _, Nat.zero_le _⟩ (Nat.le_of_ble_eq_true rfl) (fun G103 hp103 => ?_)
            obtain ⟨hz103, hq103⟩ := hp103
            have hZ103 := hq103
            have hcd : wCod A W k i = wGrind A W (y3 / 4) (y3 % 4) (if k = 0 then 0 else 1) := by
              unfold wCod
              rw [if_pos (show wCan W ∧ (wBest A W k i (A 4 1 * 4).toNat).1 ≠ -1 from ⟨hcan, by rw [← hy]; exact h84⟩), ← hy]
            rw [hk] at hcd
            have hZE : QQ Γ w t A (wCod A W k i) G103 := by rw [hcd]; exact hZ103
            exact zs_vret (pc := 106) C hr hlk dX7_confessOfDay_106 (by first | exact ⟨by repeat (first | exact zsm_rf | assumption | refine zsm_C (by decide) ?_ | refine zsm_I (by decide) ?_ | refine zsm_J ?_ | refine zsm_c (by assumption) (by decide) ?_), hZE⟩ | exact ⟨by repeat (first | exact zsm_rf | assumption | refine zsm_C (by decide) ?_ | refine zsm_I (by decide) ?_ | refine zsm_J ?_ | refine zsm_c (by assumption) (by decide) ?_), (by unfold wCod; rw [if_neg (fun q => by rcases h82_0 with z | z; exact q.2 (z.2.symm.trans h84); exact z.1 q.1)]; exact hZ1)⟩)
          · skip
            have hk : (if k = 0 then (0 : Int) else 1) = 1 := if_neg h95
            refine zs_iconst (pc := 98) C dX7_confessOfDay_98 (by decide) ?_
            refine zs_goto (tgt := 103) (pc := 99) C dX7_confessOfDay_99 (by decide) ?_
            refine zVv3 (pc := 103) C dX7_confessOfDay_103 v_X7_251 (c_X7_grindOneK hX hZ1 hW hT (by omega) (by omega) (by omega) (by omega)) (by decide) (by decide) ⟨Nat.zero_le _, Nat.zero_le _⟩ (Nat.le_of_ble_eq_true rfl) (fun G103 hp103 => ?_)
            obtain ⟨hz103, hq103⟩ := hp103
            have hZ103 := hq103
            have hcd : wCod A W k i = wGrind A W (y3 / 4) (y3 % 4) (if k = 0 then 0 else 1) := by
              unfold wCod
              rw [if_pos (show wCan W ∧ (wBest A W k i (A 4 1 * 4).toNat).1 ≠ -1 from ⟨hcan, by rw [← hy]; exact h84⟩), ← hy]
            rw [hk] at hcd
            have hZE : QQ Γ w t A (wCod A W k i) G103 := by rw [hcd]; exact hZ103
            exact zs_vret (pc := 106) C hr hlk dX7_confessOfDay_106 (by first | exact ⟨by repeat (first | exact zsm_rf | assumption | refine zsm_C (by decide) ?_ | refine zsm_I (by decide) ?_ | refine zsm_J ?_ | refine zsm_c (by assumption) (by decide) ?_), hZE⟩ | exact ⟨by repeat (first | exact zsm_rf | assumption | refine zsm_C (by decide) ?_ | refine zsm_I (by decide) ?_ | refine zsm_J ?_ | refine zsm_c (by assumption) (by decide) ?_), (by unfold wCod; rw [if_neg (fun q => by rcases h82_0 with z | z; exact q.2 (z.2.symm.trans h84); exact z.1 q.1)]; exact hZ1)⟩)
      refine zs_aload_n (pc := 10) C dX7_confessOfDay_10 rfl ?_
      refine zs_getd (r := 800) (pc := 11) C dX7_confessOfDay_11 w_X7_40 f_8_0 (by decide) rfl (fun v11 e11 t11 => ?_)
      try simp only [h8_2.2, zuI_1, zuI_2, zuJ_1, zuJ_2, zuJ_3, zuP_1, zuP_2, zuP_3, zuC_1, zuC_2, reduceIte, Nat.reduceEqDiff, false_and, and_false, true_and, and_true, and_self, or_true, true_or, or_false, false_or] at e11
      rw [hI] at e11
      subst v11
      refine zs_getf (pc := 14) C dX7_confessOfDay_14 w_X7_95 f_6_2 (by decide) ?_
      refine zs_iconst (pc := 17) C dX7_confessOfDay_17 (by decide) ?_
      refine zs_iald (r := 2037) (pc := 18) C dX7_confessOfDay_18 a_37 (by decide) (by omega) rfl rfl (fun v18 e18 l18 u18 => ?_)
      try simp only [QQ_2037 hZ1, Int.reduceToNat] at e18
      try subst v18
      refine zs_iconst (pc := 19) C dX7_confessOfDay_19 (by decide) ?_
      first | refine zs_imul (pc := 20) C dX7_confessOfDay_20 (by omega) ?_ | refine zs_imulF (pc := 20) C dX7_confessOfDay_20 (fun z20 hz201 hz202 => ?_)
      refine zs_icmp_ge (tgt := 82) (pc := 21) C dX7_confessOfDay_21 (by decide) (fun h21 => ?_) (fun h21 => ?_)
      · skip
        have hE : (wCan W ∧ x3 = (wBest A W k i (A 4 1 * 4).toNat).1) ∨ (¬ wCan W ∧ x3 = -1) := by
          by_cases hc : wCan W
          · have e : x6 = A 4 1 * 4 := by omega
            exact Or.inl ⟨hc, by rw [← e, ← h8_1]⟩
          · have e := h8_3.resolve_right hc
            rw [e] at h8_1
            exact Or.inr ⟨hc, congrArg Prod.fst h8_1⟩
        exact zs_wk (J82 _ hE) (zwk_s rfl (zwk_s rfl (zwk_s rfl (zwk_s rfl (zwk_n (zwk_n (zwk_n (zwk_n (zwk_n zwk_0)))))))))
      · skip
        have hbi := wBest_in (A := A) (W := W) (t := k) (i := i) x6.toNat
        rw [← h8_1] at hbi
        obtain ⟨u9, hu1, hu2, hb3, hb4⟩ := wBest_k (A := A) (W := W) (t := k) (i := i) (k := x6) (by omega) h8_1
        refine zs_aload_n (pc := 24) C dX7_confessOfDay_24 rfl ?_
        refine zVip0 (pc := 25) C dX7_confessOfDay_25 v_X7_171 (c_X7_canGrindK hX hZ1) (by decide) (by decide) ⟨Nat.zero_le _, Nat.zero_le _⟩ (Nat.le_of_ble_eq_true rfl) (fun x25 l25 u25 hp25 => ?_)
        have hq25 := hp25
        refine zs_if_eq (tgt := 82) (pc := 28) C dX7_confessOfDay_28 (by decide) (fun h28 => ?_) (fun h28 => ?_)
        · skip
          have hE : (wCan W ∧ x3 = (wBest A W k i (A 4 1 * 4).toNat).1) ∨ (¬ wCan W ∧ x3 = -1) := by
            have hc : ¬ wCan W := fun q => by have := hq25.2.mpr q; omega
            have e := h8_3.resolve_right hc
            rw [e] at h8_1
            exact Or.inr ⟨hc, congrArg Prod.fst h8_1⟩
          exact zs_wk (J82 _ hE) (zwk_s rfl (zwk_s rfl (zwk_s rfl (zwk_s rfl (zwk_n (zwk_n (zwk_n (zwk_n (zwk_n zwk_0)))))))))
        · skip
          have hcan : wCan W := hq25.2.mp (by omega)
          refine zs_aload_n (pc := 31) C dX7_confessOfDay_31 rfl ?_
          refine zs_getf (pc := 32) C dX7_confessOfDay_32 w_X7_22 f_8_3 (by decide) ?_
          refine zs_iload (pc := 35) C dX7_confessOfDay_35 rfl ?_
          refine zs_iald (r := 2049) (pc := 37) C dX7_confessOfDay_37 a_49 (by decide) (by omega) rfl (r_2049 _) (fun v37 e37 l37 u37 => ?_)
          try simp only [QQ_2049 hZ1] at e37
          try subst v37
          refine zs_if_le (tgt := 58) (pc := 38) C dX7_confessOfDay_38 (by decide) (fun h38 => ?_) (fun h38 => ?_)
          · skip
            have hu9 := hu2 (by omega)
            refine zs_lconst (n := 0) (pc := 58) C dX7_confessOfDay_58 rfl (by decide) ?_
            refine zs_lstore (pc := 59) C dX7_confessOfDay_59 (by decide) ?_
            dsimp only [zset, zclr, znone]
            refine zs_lload (pc := 61) C dX7_confessOfDay_61 rfl ?_
            refine zs_lload (pc := 63) C dX7_confessOfDay_63 rfl ?_
            refine zs_lcmp (pc := 65) C dX7_confessOfDay_65 (fun z65 hz65 => ?_)
            refine zs_if_le (tgt := 76) (pc := 66) C dX7_confessOfDay_66 (by decide) (fun h66 => ?_) (fun h66 => ?_)
            · skip
              have hst := hb3 (by omega)
              first | refine zs_iinc (pc := 76) C dX7_confessOfDay_76 rfl (by decide) (by omega) ?_ | refine zs_iincF (pc := 76) C dX7_confessOfDay_76 rfl (by decide) (fun z76 hz761 hz762 => ?_)
              dsimp only [zset, zclr, znone]
              refine zs_goto (tgt := 8) (pc := 79) C dX7_confessOfDay_79 (by decide) ?_
              exact zs_wk (ih8 _ _ _ _ (by omega) (by first | exact hst | (rw [hu9] at hst; exact hst) | (rw [hu9, ← hq52] at hst; exact hst)) (by repeat (first | exact zsm_rf | assumption | refine zsm_C (by decide) ?_ | refine zsm_I (by decide) ?_ | refine zsm_J ?_ | refine zsm_c (by assumption) (by decide) ?_)) (Or.inr hcan) (by first | omega | (simp only [zuI_1, zuI_2, zuJ_1, zuJ_2, zuJ_3, zuP_1, zuP_2, zuP_3, zuC_1, zuC_2, reduceIte, Nat.reduceEqDiff, false_and, and_false, true_and, and_true, and_self, or_true, true_or, or_false, false_or]; omega))) (zwk_s rfl (zwk_s rfl (zwk_s rfl (zwk_s rfl (zwk_s rfl (zwk_n (zwk_s rfl (zwk_n (zwk_n zwk_0)))))))))
            · skip
              have hst := hb4 (by omega)
              refine zs_lload (pc := 69) C dX7_confessOfDay_69 rfl ?_
              refine zs_lstore (pc := 71) C dX7_confessOfDay_71 (by decide) ?_
              dsimp only [zset, zclr, znone]
              refine zs_iload (pc := 73) C dX7_confessOfDay_73 rfl ?_
              refine zs_istore_n (pc := 75) C dX7_confessOfDay_75 (by decide) ?_
              dsimp only [zset, zclr, znone]
              first | refine zs_iinc (pc := 76) C dX7_confessOfDay_76 rfl (by decide) (by omega) ?_ | refine zs_iincF (pc := 76) C dX7_confessOfDay_76 rfl (by decide) (fun z76 hz761 hz762 => ?_)
              dsimp only [zset, zclr, znone]
              refine zs_goto (tgt := 8) (pc := 79) C dX7_confessOfDay_79 (by decide) ?_
              exact zs_wk (ih8 _ _ _ _ (by omega) (by first | exact hst | (rw [hu9] at hst; exact hst) | (rw [hu9, ← hq52] at hst; exact hst)) (by repeat (first | exact zsm_rf | assumption | refine zsm_C (by decide) ?_ | refine zsm_I (by decide) ?_ | refine zsm_J ?_ | refine zsm_c (by assumption) (by decide) ?_)) (Or.inr hcan) (by first | omega | (simp only [zuI_1, zuI_2, zuJ_1, zuJ_2, zuJ_3, zuP_1, zuP_2, zuP_3, zuC_1, zuC_2, reduceIte, Nat.reduceEqDiff, false_and, and_false, true_and, and_true, and_self, or_true, true_or, or_false, false_or]; omega))) (zwk_s rfl (zwk_s rfl (zwk_s rfl (zwk_s rfl (zwk_s rfl (zwk_n (zwk_s rfl (zwk_n (zwk_n zwk_0)))))))))
          · skip
            have hps6 := WI_ps hW (m := x6) (by omega) (by omega)
            have hu9 := hu1 (by omega)
            refine zs_aload_n (pc := 41) C dX7_confessOfDay_41 rfl ?_
            refine zs_iload (pc := 42) C dX7_confessOfDay_42 rfl ?_
            refine zs_iconst (pc := 44) C dX7_confessOfDay_44 (by decide) ?_
            first | refine zs_idiv (pc := 45) C dX7_confessOfDay_45 (by omega) (by omega) (fun hz451 hz452 => ?_) | refine zs_idivF (pc := 45) C dX7_confessOfDay_45 (by omega) (fun z45 hz451 hz452 => ?_)
            refine zs_iload (pc := 46) C dX7_confessOfDay_46 rfl ?_
            refine zs_iconst (pc := 48) C dX7_confessOfDay_48 (by decide) ?_
            first | refine zs_irem (pc := 49) C dX7_confessOfDay_49 (by omega) (by omega) (fun hz491 hz492 => ?_) | refine zs_iremF (pc := 49) C dX7_confessOfDay_49 (by omega) (fun z49 hz491 hz492 => ?_)
            refine zs_iload_n (pc := 50) C dX7_confessOfDay_50 rfl ?_
            refine zs_iload_n (pc := 51) C dX7_confessOfDay_51 rfl ?_
            refine zVj4 (pc := 52) C dX7_confessOfDay_52 v_X7_247 (c_X7_urgeOfK hX hZ1 hW hT (by omega) (by omega) (by omega)) (by decide) (by decide) ⟨Nat.zero_le _, Nat.zero_le _⟩ (Nat.le_of_ble_eq_true rfl) (fun x52 G52 l52 u52 hp52 => ?_)
            obtain ⟨hz52, hq52⟩ := hp52
            first | have hZ52 := QQ_n hz52 hZ | have hZ52 := QQ_n hz52 hZ1
            refine zs_goto (tgt := 59) (pc := 55) C dX7_confessOfDay_55 (by decide) ?_
            refine zs_lstore (pc := 59) C dX7_confessOfDay_59 (by decide) ?_
            dsimp only [zset, zclr, znone]
            refine zs_lload (pc := 61) C dX7_confessOfDay_61 rfl ?_
            refine zs_lload (pc := 63) C dX7_confessOfDay_63 rfl ?_
            refine zs_lcmp (pc := 65) C dX7_confessOfDay_65 (fun z65 hz65 => ?_)
            refine zs_if_le (tgt := 76) (pc := 66) C dX7_confessOfDay_66 (by decide) (fun h66 => ?_) (fun h66 => ?_)
            · skip
              have hst := hb3 (by omega)
              first | refine zs_iinc (pc := 76) C dX7_confessOfDay_76 rfl (by decide) (by omega) ?_ | refine zs_iincF (pc := 76) C dX7_confessOfDay_76 rfl (by decide) (fun z76 hz761 hz762 => ?_)
              dsimp only [zset, zclr, znone]
              refine zs_goto (tgt := 8) (pc := 79) C dX7_confessOfDay_79 (by decide) ?_
              exact zs_wk (ih8 _ _ _ _ (by omega) (by first | exact hst | (rw [hu9] at hst; exact hst) | (rw [hu9, ← hq52] at hst; exact hst)) (by repeat (first | exact zsm_rf | assumption | refine zsm_C (by decide) ?_ | refine zsm_I (by decide) ?_ | refine zsm_J ?_ | refine zsm_c (by assumption) (by decide) ?_)) (Or.inr hcan) (by first | omega | (simp only [zuI_1, zuI_2, zuJ_1, zuJ_2, zuJ_3, zuP_1, zuP_2, zuP_3, zuC_1, zuC_2, reduceIte, Nat.reduceEqDiff, false_and, and_false, true_and, and_true, and_self, or_true, true_or, or_false, false_or]; omega))) (zwk_s rfl (zwk_s rfl (zwk_s rfl (zwk_s rfl (zwk_s rfl (zwk_n (zwk_s rfl (zwk_n (zwk_n zwk_0)))))))))
            · skip
              have hst := hb4 (by omega)
              refine zs_lload (pc := 69) C dX7_confessOfDay_69 rfl ?_
              refine zs_lstore (pc := 71) C dX7_confessOfDay_71 (by decide) ?_
              dsimp only [zset, zclr, znone]
              refine zs_iload (pc := 73) C dX7_confessOfDay_73 rfl ?_
              refine zs_istore_n (pc := 75) C dX7_confessOfDay_75 (by decide) ?_
              dsimp only [zset, zclr, znone]
              first | refine zs_iinc (pc := 76) C dX7_confessOfDay_76 rfl (by decide) (by omega) ?_ | refine zs_iincF (pc := 76) C dX7_confessOfDay_76 rfl (by decide) (fun z76 hz761 hz762 => ?_)
              dsimp only [zset, zclr, znone]
              refine zs_goto (tgt := 8) (pc := 79) C dX7_confessOfDay_79 (by decide) ?_
              exact zs_wk (ih8 _ _ _ _ (by omega) (by first | exact hst | (rw [hu9] at hst; exact hst) | (rw [hu9, ← hq52] at hst; exact hst)) (by repeat (first | exact zsm_rf | assumption | refine zsm_C (by decide) ?_ | refine zsm_I (by decide) ?_ | refine zsm_J ?_ | refine zsm_c (by assumption) (by decide) ?_)) (Or.inr hcan) (by first | omega | (simp only [zuI_1, zuI_2, zuJ_1, zuJ_2, zuJ_3, zuP_1, zuP_2, zuP_3, zuC_1, zuC_2, reduceIte, Nat.reduceEqDiff, false_and, and_false, true_and, and_true, and_self, or_true, true_or, or_false, false_or]; omega))) (zwk_s rfl (zwk_s rfl (zwk_s rfl (zwk_s rfl (zwk_s rfl (zwk_n (zwk_s rfl (zwk_n (zwk_n zwk_0)))))))))
  exact zs_wk (L8 _ _ _ _ _ (by omega) rfl zsm_rf (Or.inl rfl) (Nat.lt_succ_self _)) (zwk_s rfl (zwk_s rfl (zwk_s rfl (zwk_s rfl (zwk_s rfl (zwk_n (zwk_s rfl (zwk_n (zwk_n zwk_0)))))))))

set_option maxHeartbeats 4000000 in
set_option maxRecDepth 100000 in
theorem c_X7_isFittingK {l : Launch} {Γ : zΓ} {G : zH} {w t : Nat} {A W : aS} {k : Int} (hX : zXs Γ) (hZ : QQ Γ w t A W G) (hW : WI A W) (hT : TA A) (hk : 0 ≤ k ∧ k < 7)  : zMet l Γ yX7_isFitting cX7_isFitting 4 (some .boolean) 4 [zr 8 w, zi k] G (zpi (fun x G' => zsm [] G G' ∧ ((x = 0 ∨ x = 1) ∧ (x = 1 ↔ wFt A W k (wKn W))))) := by
  have hI := QQ_t hZ
  refine zMet_of RX7 hX (by decide) rfl (Nat.le_of_ble_eq_true rfl) ?_
  intro p e s m args below meth c C hr hlk
  show Z p l e (zrm 4) s m args below meth c Γ 4 0 0 (MQ below (zQc Γ (zpi (fun x G' => zsm [] G G' ∧ ((x = 0 ∨ x = 1) ∧ (x = 1 ↔ wFt A W k (wKn W)))))) args s 0 0 (zA Γ)) 0 [some (zr 8 w), some (zi k), none, none] [] G
  refine zs_loc 1 rfl (fun ha1 hb1 => ?_)
  have h00 := hW.1
  obtain ⟨w18, w19, w20, w21, w22⟩ := hW.2.2.2.2.2
  have hT0 := hT.1
  refine zs_aload_n (pc := 0) C dX7_isFitting_0 rfl ?_
  refine zs_geti (r := 813) (pc := 1) C dX7_isFitting_1 w_X7_88 f_8_13 rfl (r_813 0) (fun v1 e1 l1 u1 => ?_)
  try simp only [QQ_813 hZ] at e1
  try subst v1
  refine zs_iconst (pc := 4) C dX7_isFitting_4 (by decide) ?_
  refine zs_icmp_ne (tgt := 18) (pc := 5) C dX7_isFitting_5 (by decide) (fun h5 => ?_) (fun h5 => ?_)
  · skip
    refine zs_aload_n (pc := 18) C dX7_isFitting_18 rfl ?_
    refine zs_geti (r := 813) (pc := 19) C dX7_isFitting_19 w_X7_88 f_8_13 rfl (r_813 0) (fun v19 e19 l19 u19 => ?_)
    try simp only [QQ_813 hZ] at e19
    try subst v19
    refine zs_aload_n (pc := 22) C dX7_isFitting_22 rfl ?_
    refine zs_getf (pc := 23) C dX7_isFitting_23 w_X7_12 f_8_1 (by decide) ?_
    refine zs_geti (r := 510) (pc := 26) C dX7_isFitting_26 w_X7_48 f_5_10 rfl (r_510 0) (fun v26 e26 l26 u26 => ?_)
    try simp only [QQ_510 hZ] at e26
    try subst v26
    refine zs_minI (pc := 29) C dX7_isFitting_29 s_X7_149 (by decide) (Nat.le_of_ble_eq_true rfl) ⟨Nat.zero_le _, Nat.zero_le _⟩ (fun z29 hz29 => ?_)
    have hkn : (W 22 0 = -1 → wKn W = W 0 0) ∧ (W 22 0 ≠ -1 → wKn W = min (W 22 0) (W 0 0)) := ⟨fun q => by unfold wKn; rw [if_pos q], fun q => by unfold wKn; rw [if_neg q]⟩
    refine zs_istore_n (pc := 32) C dX7_isFitting_32 (by decide) ?_
    dsimp only [zset, zclr, znone]
    refine zs_iconst (pc := 33) C dX7_isFitting_33 (by decide) ?_
    refine zs_istore_n (pc := 34) C dX7_isFitting_34 (by decide) ?_
    dsimp only [zset, zclr, znone]
    have L35 : ∀ (nn : Nat) (x2 x3 : Int) (G1 : zH), (x2 = wKn W ∧ 0 ≤ x2 ∧ x2 ≤ W 0 0) → (0 ≤ x3 ∧ x3 ≤ x2) → (zsm [] G G1) → (wFt A W k x3) → (60 - x3).toNat < nn → Z p l e (zrm 4) s m args below meth c Γ 4 0 0 (MQ below (zQc Γ (zpi (fun x G' => zsm [] G G' ∧ ((x = 0 ∨ x = 1) ∧ (x = 1 ↔ wFt A W k (wKn W)))))) args s 0 0 (zA Γ)) 35 [some (zr 8 w), some (zi k), some (zi x2), some (zi x3)] [] G1 := by
      intro nn
      induction nn with
      | zero => intro x2 x3 G1 h35_0 h35_1 h35_2 h35_3 hm; exact absurd hm (Nat.not_lt_zero _)
      | succ nn ih35 =>
        intro x2 x3 G1 h35_0 h35_1 h35_2 h35_3 hm35
        have hZ1 := QQ_n h35_2 hZ
        refine zs_iload_n (pc := 35) C dX7_isFitting_35 rfl ?_
        refine zs_iload_n (pc := 36) C dX7_isFitting_36 rfl ?_
        refine zs_icmp_ge (tgt := 75) (pc := 37) C dX7_isFitting_37 (by decide) (fun h37 => ?_) (fun h37 => ?_)
        · skip
          refine zs_iconst (pc := 75) C dX7_isFitting_75 (by decide) ?_
          exact zs_zret (pc := 76) C hr hlk dX7_isFitting_76 (by omega) ⟨by repeat (first | exact zsm_rf | assumption | refine zsm_C (by decide) ?_ | refine zsm_I (by decide) ?_ | refine zsm_J ?_ | refine zsm_c (by assumption) (by decide) ?_), ⟨Or.inr rfl, fun _ => (by have e : x3 = wKn W := (by omega); rw [← e]; exact h35_3), fun _ => rfl⟩⟩
        · skip
          have hsk := hW.2.1 x3.toNat (by omega)
          obtain ⟨-, s2, -⟩ := hsk
          refine zs_aload_n (pc := 40) C dX7_isFitting_40 rfl ?_
          refine zs_iload_n (pc := 41) C dX7_isFitting_41 rfl ?_
          refine zs_iload_n (pc := 42) C dX7_isFitting_42 rfl ?_
          refine zs_aload_n (pc := 43) C dX7_isFitting_43 rfl ?_
          refine zs_getf (pc := 44) C dX7_isFitting_44 w_X7_12 f_8_1 (by decide) ?_
          refine zs_getf (pc := 47) C dX7_isFitting_47 w_X7_154 f_5_1 (by decide) ?_
          refine zs_iload_n (pc := 50) C dX7_isFitting_50 rfl ?_
          refine zs_iald (r := 2027) (pc := 51) C dX7_isFitting_51 a_27 (by decide) (by omega) rfl (r_2027 _) (fun v51 e51 l51 u51 => ?_)
          try simp only [QQ_2027 hZ1] at e51
          try subst v51
          refine zVi3 (pc := 52) C dX7_isFitting_52 v_X7_157 (c_X7_fineThenK hX hZ1 hW hT (by omega) (by omega) (by omega) hk) (by decide) (by decide) ⟨Nat.zero_le _, Nat.zero_le _⟩ (Nat.le_of_ble_eq_true rfl) (fun x52 G52 l52 u52 hp52 => ?_)
          obtain ⟨hz52, hq52⟩ := hp52
          first | have hZ52 := QQ_n hz52 hZ | have hZ52 := QQ_n hz52 hZ1
          refine zs_aload_n (pc := 55) C dX7_isFitting_55 rfl ?_
          refine zs_getf (pc := 56) C dX7_isFitting_56 w_X7_12 f_8_1 (by decide) ?_
          refine zs_getf (pc := 59) C dX7_isFitting_59 w_X7_161 f_5_2 (by decide) ?_
          refine zs_iload_n (pc := 62) C dX7_isFitting_62 rfl ?_
          refine zs_iald (r := 2028) (pc := 63) C dX7_isFitting_63 a_28 (by decide) (by omega) rfl (r_2028 _) (fun v63 e63 l63 u63 => ?_)
          try simp only [QQ_2028 hZ52, QQ_2028 hZ1] at e63
          try subst v63
          refine zs_icmp_eq (tgt := 69) (pc := 64) C dX7_isFitting_64 (by decide) (fun h64 => ?_) (fun h64 => ?_)
          · skip
            first | refine zs_iinc (pc := 69) C dX7_isFitting_69 rfl (by decide) (by omega) ?_ | refine zs_iincF (pc := 69) C dX7_isFitting_69 rfl (by decide) (fun z69 hz691 hz692 => ?_)
            dsimp only [zset, zclr, znone]
            refine zs_goto (tgt := 35) (pc := 72) C dX7_isFitting_72 (by decide) ?_
            exact zs_wk (ih35 _ _ _ (by omega) (by omega) (by repeat (first | exact zsm_rf | assumption | refine zsm_C (by decide) ?_ | refine zsm_I (by decide) ?_ | refine zsm_J ?_ | refine zsm_c (by assumption) (by decide) ?_)) ((wFt_s (by omega)).mpr ⟨h35_3, by omega⟩) (by first | omega | (simp only [zuI_1, zuI_2, zuJ_1, zuJ_2, zuJ_3, zuP_1, zuP_2, zuP_3, zuC_1, zuC_2, reduceIte, Nat.reduceEqDiff, false_and, and_false, true_and, and_true, and_self, or_true, true_or, or_false, false_or]; omega))) (zwk_s rfl (zwk_s rfl (zwk_s rfl (zwk_s rfl zwk_0))))
          · skip
            refine zs_iconst (pc := 67) C dX7_isFitting_67 (by decide) ?_
            exact zs_zret (pc := 68) C hr hlk dX7_isFitting_68 (by omega) ⟨by repeat (first | exact zsm_rf | assumption | refine zsm_C (by decide) ?_ | refine zsm_I (by decide) ?_ | refine zsm_J ?_ | refine zsm_c (by assumption) (by decide) ?_), ⟨Or.inl rfl, fun q => absurd q (by decide), fun q => absurd q (wFt_no (k := x3) (by omega) (by omega))⟩⟩
    exact zs_wk (L35 _ _ _ _ (by omega) (by omega) zsm_rf (by exact trivial) (Nat.lt_succ_self _)) (zwk_s rfl (zwk_s rfl (zwk_s rfl (zwk_s rfl zwk_0))))
  · skip
    refine zs_aload_n (pc := 8) C dX7_isFitting_8 rfl ?_
    refine zs_getf (pc := 9) C dX7_isFitting_9 w_X7_12 f_8_1 (by decide) ?_
    refine zs_geti (r := 510) (pc := 12) C dX7_isFitting_12 w_X7_48 f_5_10 rfl (r_510 0) (fun v12 e12 l12 u12 => ?_)
    try simp only [QQ_510 hZ] at e12
    try subst v12
    refine zs_goto (tgt := 32) (pc := 15) C dX7_isFitting_15 (by decide) ?_
    have hkn : (W 22 0 = -1 → wKn W = W 0 0) ∧ (W 22 0 ≠ -1 → wKn W = min (W 22 0) (W 0 0)) := ⟨fun q => by unfold wKn; rw [if_pos q], fun q => by unfold wKn; rw [if_neg q]⟩
    refine zs_istore_n (pc := 32) C dX7_isFitting_32 (by decide) ?_
    dsimp only [zset, zclr, znone]
    refine zs_iconst (pc := 33) C dX7_isFitting_33 (by decide) ?_
    refine zs_istore_n (pc := 34) C dX7_isFitting_34 (by decide) ?_
    dsimp only [zset, zclr, znone]
    have L35 : ∀ (nn : Nat) (x2 x3 : Int) (G1 : zH), (x2 = wKn W ∧ 0 ≤ x2 ∧ x2 ≤ W 0 0) → (0 ≤ x3 ∧ x3 ≤ x2) → (zsm [] G G1) → (wFt A W k x3) → (60 - x3).toNat < nn → Z p l e (zrm 4) s m args below meth c Γ 4 0 0 (MQ below (zQc Γ (zpi (fun x G' => zsm [] G G' ∧ ((x = 0 ∨ x = 1) ∧ (x = 1 ↔ wFt A W k (wKn W)))))) args s 0 0 (zA Γ)) 35 [some (zr 8 w), some (zi k), some (zi x2), some (zi x3)] [] G1 := by
      intro nn
      induction nn with
      | zero => intro x2 x3 G1 h35_0 h35_1 h35_2 h35_3 hm; exact absurd hm (Nat.not_lt_zero _)
      | succ nn ih35 =>
        intro x2 x3 G1 h35_0 h35_1 h35_2 h35_3 hm35
        have hZ1 := QQ_n h35_2 hZ
        refine zs_iload_n (pc := 35) C dX7_isFitting_35 rfl ?_
        refine zs_iload_n (pc := 36) C dX7_isFitting_36 rfl ?_
        refine zs_icmp_ge (tgt := 75) (pc := 37) C dX7_isFitting_37 (by decide) (fun h37 => ?_) (fun h37 => ?_)
        · skip
          refine zs_iconst (pc := 75) C dX7_isFitting_75 (by decide) ?_
          exact zs_zret (pc := 76) C hr hlk dX7_isFitting_76 (by omega) ⟨by repeat (first | exact zsm_rf | assumption | refine zsm_C (by decide) ?_ | refine zsm_I (by decide) ?_ | refine zsm_J ?_ | refine zsm_c (by assumption) (by decide) ?_), ⟨Or.inr rfl, fun _ => (by have e : x3 = wKn W := (by omega); rw [← e]; exact h35_3), fun _ => rfl⟩⟩
        · skip
          have hsk := hW.2.1 x3.toNat (by omega)
          obtain ⟨-, s2, -⟩ := hsk
          refine zs_aload_n (pc := 40) C dX7_isFitting_40 rfl ?_
          refine zs_iload_n (pc := 41) C dX7_isFitting_41 rfl ?_
          refine zs_iload_n (pc := 42) C dX7_isFitting_42 rfl ?_
          refine zs_aload_n (pc := 43) C dX7_isFitting_43 rfl ?_
          refine zs_getf (pc := 44) C dX7_isFitting_44 w_X7_12 f_8_1 (by decide) ?_
          refine zs_getf (pc := 47) C dX7_isFitting_47 w_X7_154 f_5_1 (by decide) ?_
          refine zs_iload_n (pc := 50) C dX7_isFitting_50 rfl ?_
          refine zs_iald (r := 2027) (pc := 51) C dX7_isFitting_51 a_27 (by decide) (by omega) rfl (r_2027 _) (fun v51 e51 l51 u51 => ?_)
          try simp only [QQ_2027 hZ1] at e51
          try subst v51
          refine zVi3 (pc := 52) C dX7_isFitting_52 v_X7_157 (c_X7_fineThenK hX hZ1 hW hT (by omega) (by omega) (by omega) hk) (by decide) (by decide) ⟨Nat.zero_le _, Nat.zero_le _⟩ (Nat.le_of_ble_eq_true rfl) (fun x52 G52 l52 u52 hp52 => ?_)
          obtain ⟨hz52, hq52⟩ := hp52
          first | have hZ52 := QQ_n hz52 hZ | have hZ52 := QQ_n hz52 hZ1
          refine zs_aload_n (pc := 55) C dX7_isFitting_55 rfl ?_
          refine zs_getf (pc := 56) C dX7_isFitting_56 w_X7_12 f_8_1 (by decide) ?_
          refine zs_getf (pc := 59) C dX7_isFitting_59 w_X7_161 f_5_2 (by decide) ?_
          refine zs_iload_n (pc := 62) C dX7_isFitting_62 rfl ?_
          refine zs_iald (r := 2028) (pc := 63) C dX7_isFitting_63 a_28 (by decide) (by omega) rfl (r_2028 _) (fun v63 e63 l63 u63 => ?_)
          try simp only [QQ_2028 hZ52, QQ_2028 hZ1] at e63
          try subst v63
          refine zs_icmp_eq (tgt := 69) (pc := 64) C dX7_isFitting_64 (by decide) (fun h64 => ?_) (fun h64 => ?_)
          · skip
            first | refine zs_iinc (pc := 69) C dX7_isFitting_69 rfl (by decide) (by omega) ?_ | refine zs_iincF (pc := 69) C dX7_isFitting_69 rfl (by decide) (fun z69 hz691 hz692 => ?_)
            dsimp only [zset, zclr, znone]
            refine zs_goto (tgt := 35) (pc := 72) C dX7_isFitting_72 (by decide) ?_
            exact zs_wk (ih35 _ _ _ (by omega) (by omega) (by repeat (first | exact zsm_rf | assumption | refine zsm_C (by decide) ?_ | refine zsm_I (by decide) ?_ | refine zsm_J ?_ | refine zsm_c (by assumption) (by decide) ?_)) ((wFt_s (by omega)).mpr ⟨h35_3, by omega⟩) (by first | omega | (simp only [zuI_1, zuI_2, zuJ_1, zuJ_2, zuJ_3, zuP_1, zuP_2, zuP_3, zuC_1, zuC_2, reduceIte, Nat.reduceEqDiff, false_and, and_false, true_and, and_true, and_self, or_true, true_or, or_false, false_or]; omega))) (zwk_s rfl (zwk_s rfl (zwk_s rfl (zwk_s rfl zwk_0))))
          · skip
            refine zs_iconst (pc := 67) C dX7_isFitting_67 (by decide) ?_
            exact zs_zret (pc := 68) C hr hlk dX7_isFitting_68 (by omega) ⟨by repeat (first | exact zsm_rf | assumption | refine zsm_C (by decide) ?_ | refine zsm_I (by decide) ?_ | refine zsm_J ?_ | refine zsm_c (by assumption) (by decide) ?_), ⟨Or.inl rfl, fun q => absurd q (by decide), fun q => absurd q (wFt_no (k := x3) (by omega) (by omega))⟩⟩
    exact zs_wk (L35 _ _ _ _ (by omega) (by omega) zsm_rf (by exact trivial) (Nat.lt_succ_self _)) (zwk_s rfl (zwk_s rfl (zwk_s rfl (zwk_s rfl zwk_0))))
