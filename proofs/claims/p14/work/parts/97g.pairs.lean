theorem dgf_0 {n j : Nat} : dgf n 0 j = 0 := by
  unfold dgf
  split
  · rw [Nat.zero_div, Nat.zero_mod]; rfl
  · rfl
theorem rBs_m {Γ : zΓ} {w n : Nat} {x : cpT} {G G1 : zH} {rs js : List Nat} (hz : zsm rs G G1) (hr : 2104 ∉ rs) (hj : zsj js G G1) (hj2 : 1082 ∉ js) (h : rBs Γ w n x G) : rBs Γ w n x G1 := h.imp id (fun z => ⟨by rw [hj 1082 hj2]; exact z.1, fun j hj => by rw [hz.1 2104 hr]; exact z.2 j hj⟩)
theorem rfo_nn {n j : Nat} {v : Nat → Nat → Int} : ∀ k : Nat, 0 ≤ (rfo n v k).2.2 j
  | 0 => Int.le_refl 0
  | k + 1 => by
    rw [rfo]
    split
    · unfold ctk
      split
      · exact dgf_in.1
      · exact rfo_nn k
    · exact rfo_nn k

set_option maxHeartbeats 4000000 in
set_option maxRecDepth 100000 in
theorem c_X9_layPairsP {l : Launch} {Γ : zΓ} {G : zH} {w : Nat} {n K : Nat} {A W : aS}  (hX : zXs Γ) (hR : rW Γ w 0 W G) (hK : kR Γ w A G) (hW : WI A W) (hT : TA A) (hnA : A 4 1 = (n : Int)) (h1 : 1 ≤ n ∧ n ≤ 5) (hKn : K = (n + 1) ^ n)  : zMet l Γ yX9_layPairs cX9_layPairs 6 none 4 [zr 10 w] G (zpv (fun G' => zsm [1050, 2103, 2104] G G' ∧ (rBs Γ w n (rfo n (prV A W) K) G' ∧ zsj [2079, 2080, 1082] G G'))) := by
  refine zMet_of RX9 hX (by decide) rfl (Nat.le_of_ble_eq_true rfl) ?_
  intro p e s m args below meth c C hr hlk
  show Z p l e (zrm 4) s m args below meth c Γ 6 0 0 (MQ below (zQc Γ (zpv (fun G' => zsm [1050, 2103, 2104] G G' ∧ (rBs Γ w n (rfo n (prV A W) K) G' ∧ zsj [2079, 2080, 1082] G G')))) args s 0 0 (zA Γ)) 0 [some (zr 10 w), none, none, none, none, none] [] G
  have hT0 := hT.1
  have hnx := nxP_n h1
  unfold nxP at hnx
  rw [← hKn] at hnx
  have hKp : 0 < K := by rw [hKn]; exact Nat.pow_pos (by omega)
  refine zs_iconst (pc := 0) C dX9_layPairs_0 (by decide) ?_
  refine zs_istore_n (pc := 1) C dX9_layPairs_1 (by decide) ?_
  dsimp only [zset, zclr, znone]
  have L2 : ∀ (nn : Nat) (x1 : Int) (G2 : zH), (0 ≤ x1 ∧ x1 ≤ 5) → (zsm [1050, 2103, 2104] G G2) → (∀ i : Nat, (i : Int) < x1 → G2.1 2103 (Γ.2.1 w 80) i = 0) → (zsj [] G G2) → (5 - x1).toNat < nn → Z p l e (zrm 4) s m args below meth c Γ 6 0 0 (MQ below (zQc Γ (zpv (fun G' => zsm [1050, 2103, 2104] G G' ∧ (rBs Γ w n (rfo n (prV A W) K) G' ∧ zsj [2079, 2080, 1082] G G')))) args s 0 0 (zA Γ)) 2 [some (zr 10 w), some (zi x1), none, none, none, none] [] G2 := by
    intro nn
    induction nn with
    | zero => intro x1 G2 h2_0 h2_1 h2_2 h2_3 hm; exact absurd hm (Nat.not_lt_zero _)
    | succ nn ih2 =>
      intro x1 G2 h2_0 h2_1 h2_2 h2_3 hm2
      refine zs_iload_n (pc := 2) C dX9_layPairs_2 rfl ?_
      refine zs_iconst (pc := 3) C dX9_layPairs_3 (by decide) ?_
      refine zs_icmp_ge (tgt := 20) (pc := 4) C dX9_layPairs_4 (by decide) (fun h4 => ?_) (fun h4 => ?_)
      · skip
        have hx5 : x1 = 5 := by omega
        rw [hx5] at h2_2
        refine zs_iconst (pc := 20) C dX9_layPairs_20 (by decide) ?_
        refine zs_istore_n (pc := 21) C dX9_layPairs_21 (by decide) ?_
        dsimp only [zset, zclr, znone]
        refine zs_iconst (pc := 22) C dX9_layPairs_22 (by decide) ?_
        refine zs_istore_n (pc := 23) C dX9_layPairs_23 (by decide) ?_
        dsimp only [zset, zclr, znone]
        have L24 : ∀ (nn : Nat) (x1 x2 : Int) (k : Nat) (G3 : zH), (zsm [1050, 2103, 2104] G G3) → (zsj [2079, 2080, 1082] G G3) → (x1 = (rfo n (prV A W) k).1 ∧ rBs Γ w n (rfo n (prV A W) k) G3) → ((x2 = 1 ∧ k < K ∧ ∀ j : Nat, j < n → G3.1 2103 (Γ.2.1 w 80) j = dgf n k j) ∨ (x2 = 0 ∧ k = K)) → K + 1 - k < nn → Z p l e (zrm 4) s m args below meth c Γ 6 0 0 (MQ below (zQc Γ (zpv (fun G' => zsm [1050, 2103, 2104] G G' ∧ (rBs Γ w n (rfo n (prV A W) K) G' ∧ zsj [2079, 2080, 1082] G G')))) args s 0 0 (zA Γ)) 24 [some (zr 10 w), some (zi x1), some (zi x2), none, none, none] [] G3 := by
          intro nn
          induction nn with
          | zero => intro x1 x2 k G3 h24_0 h24_1 h24_2 h24_3 hm; exact absurd hm (Nat.not_lt_zero _)
          | succ nn ih24 =>
            intro x1 x2 k G3 h24_0 h24_1 h24_2 h24_3 hm24
            refine zs_iload_n (pc := 24) C dX9_layPairs_24 rfl ?_
            refine zs_if_eq (tgt := 97) (pc := 25) C dX9_layPairs_25 (by decide) (fun h25 => ?_) (fun h25 => ?_)
            · skip
              have hkK : k = K := by rcases h24_3 with y | y <;> omega
              exact zs_vret (pc := 97) C hr hlk dX9_layPairs_97 ⟨h24_0, ⟨by rw [← hkK]; exact h24_2.2, h24_1⟩⟩
            · skip
              have hlk : k < K := by rcases h24_3 with y | y <;> omega
              have hd : ∀ j : Nat, j < n → G3.1 2103 (Γ.2.1 w 80) j = dgf n k j := by
                rcases h24_3 with y | y
                · exact y.2.2
                · exact absurd y.1 (by omega)
              have hn3 : G3.1 1013 w 0 = (n : Int) := by rw [h24_0.1 1013 (by decide)]; exact hK.1.2.1.trans hnA
              refine zs_aload_n (pc := 28) C dX9_layPairs_28 rfl ?_
              refine zVip0 (pc := 29) C dX9_layPairs_29 v_X9_525 (c_X9_areMatesP (n := n) (f := dgf n k) hX hn3 h1.2 (fun j hj => ⟨hd j hj, dgf_in.1⟩)) (by decide) (by decide) ⟨Nat.zero_le _, Nat.zero_le _⟩ (Nat.le_of_ble_eq_true rfl) (fun x29 l29 u29 hp29 => ?_)
              have hq29 := hp29
              have J89 : ∀ (x1 : Int) (G5 : zH), (zsm [1050, 2103, 2104] G G5) → (zsj [2079, 2080, 1082] G G5) → (x1 = (rfo n (prV A W) (k + 1)).1 ∧ rBs Γ w n (rfo n (prV A W) (k + 1)) G5) → (∀ j : Nat, j < n → G5.1 2103 (Γ.2.1 w 80) j = dgf n k j) → (G5.1 1013 w 0 = (n : Int)) → Z p l e (zrm 4) s m args below meth c Γ 6 0 0 (MQ below (zQc Γ (zpv (fun G' => zsm [1050, 2103, 2104] G G' ∧ (rBs Γ w n (rfo n (prV A W) K) G' ∧ zsj [2079, 2080, 1082] G G')))) args s 0 0 (zA Γ)) 89 [some (zr 10 w), some (zi x1), none, none, none, none] [] G5 := by
                intro x1 G5 h89_0 h89_1 h89_2 h89_3 h89_4
                refine zs_aload_n (pc := 89) C dX9_layPairs_89 rfl ?_
                refine zVi0 (pc := 90) C dX9_layPairs_90 v_X9_535 (c_X9_nextMatesP (n := n) (f := dgf n k) hX h89_4 h1.2 (fun j hj => ⟨h89_3 j hj, dgf_in.1, dgf_in.2⟩)) (by decide) (by decide) ⟨Nat.zero_le _, Nat.zero_le _⟩ (Nat.le_of_ble_eq_true rfl) (fun x90 G90 l90 u90 hp90 => ?_)
                obtain ⟨hz90, hq90⟩ := hp90
                have hj90 := hq90.2.2
                have hxk := hnx k hlk
                rw [← hq90.1] at hxk
                have st3 : x1 = (rfo n (prV A W) (k + 1)).1 ∧ rBs Γ w n (rfo n (prV A W) (k + 1)) G90 := ⟨h89_2.1, rBs_m hz90 (by decide) hj90 (by decide) h89_2.2⟩
                have st4 : (x90 = 1 ∧ k + 1 < K ∧ ∀ j : Nat, j < n → G90.1 2103 (Γ.2.1 w 80) j = dgf n (k + 1) j) ∨ (x90 = 0 ∧ k + 1 = K) := by
                  by_cases y : k + 1 < K
                  · rw [if_pos y] at hxk
                    exact Or.inl ⟨hxk.1, y, fun j hj => (hq90.2.1 j hj).trans (hxk.2 y j hj)⟩
                  · rw [if_neg y] at hxk
                    exact Or.inr ⟨hxk.1, by omega⟩
                refine zs_istore_n (pc := 93) C dX9_layPairs_93 (by decide) ?_
                dsimp only [zset, zclr, znone]
                refine zs_goto (tgt := 24) (pc := 94) C dX9_layPairs_94 (by decide) ?_
                exact zs_wk (ih24 _ _ _ _ (by repeat (first | exact zsm_rf | assumption | refine zsm_C (by decide) ?_ | refine zsm_I (by decide) ?_ | refine zsm_J ?_ | refine zsm_c (by assumption) (by decide) ?_)) (by repeat (first | exact zsj_rf | assumption | refine zsj_I ?_ | refine zsj_J (by decide) ?_ | refine zsj_e (by assumption) ?_ | refine zsj_c (by assumption) (by decide) ?_)) st3 st4 (by first | omega | (simp only [zuI_1, zuI_2, zuJ_1, zuJ_2, zuJ_3, zuP_1, zuP_2, zuP_3, zuC_1, zuC_2, reduceIte, Nat.reduceEqDiff, false_and, and_false, true_and, and_true, and_self, or_true, true_or, or_false, false_or]; omega))) (zwk_s rfl (zwk_s rfl (zwk_s rfl (zwk_n (zwk_n (zwk_n zwk_0))))))
              refine zs_if_eq (tgt := 89) (pc := 32) C dX9_layPairs_32 (by decide) (fun h32 => ?_) (fun h32 => ?_)
              · skip
                have hnm : ¬ arS n (dgf n k) n = ((n % 2 : Nat) : Int) := fun y => by have := hq29.2.mpr y; omega
                have hr2 : (rfo n (prV A W) (k + 1)) = (rfo n (prV A W) k) := by rw [rfo, if_neg hnm]
                have stA : x1 = (rfo n (prV A W) (k + 1)).1 ∧ rBs Γ w n (rfo n (prV A W) (k + 1)) G3 := by rw [hr2]; exact h24_2
                have stD := hd
                have stN := hn3
                exact zs_wk (J89 _ _ (by repeat (first | exact zsm_rf | assumption | refine zsm_C (by decide) ?_ | refine zsm_I (by decide) ?_ | refine zsm_J ?_ | refine zsm_c (by assumption) (by decide) ?_)) (by repeat (first | exact zsj_rf | assumption | refine zsj_I ?_ | refine zsj_J (by decide) ?_ | refine zsj_e (by assumption) ?_ | refine zsj_c (by assumption) (by decide) ?_)) stA stD stN) (zwk_s rfl (zwk_s rfl (zwk_n (zwk_n (zwk_n (zwk_n zwk_0))))))
              · skip
                have hm : arS n (dgf n k) n = ((n % 2 : Nat) : Int) := hq29.2.mp (by have := hq29.1; omega)
                have hr1 : (rfo n (prV A W) (k + 1)) = ctk (smS n (prV A W) (dgf n k) n) (dgf n k) (rfo n (prV A W) k) := by rw [rfo, if_pos hm]
                refine zs_aload_n (pc := 35) C dX9_layPairs_35 rfl ?_
                refine zVj0 (pc := 36) C dX9_layPairs_36 v_X9_528 (c_X9_sumOfMatesP (n := n) (f := dgf n k) (A := A) (W := W) hX (rW_sm h24_0 (by decide) hR) (kR_sm h24_0 (by decide) hK) hW hT hnA (fun j hj => ⟨hd j hj, dgf_in.1⟩)) (by decide) (by decide) ⟨Nat.zero_le _, Nat.zero_le _⟩ (Nat.le_of_ble_eq_true rfl) (fun x36 G36 l36 u36 hp36 => ?_)
                obtain ⟨hz36, hq36⟩ := hp36
                have hj36 := hq36.2
                have hx36 := hq36.1
                have stD : ∀ j : Nat, j < n → G36.1 2103 (Γ.2.1 w 80) j = dgf n k j := fun j hj => by rw [hz36.1 2103 (by decide)]; exact hd j hj
                have stN : G36.1 1013 w 0 = (n : Int) := by rw [hz36.1 1013 (by decide)]; exact hn3
                refine zs_lstore_n (pc := 39) C dX9_layPairs_39 (by decide) ?_
                dsimp only [zset, zclr, znone]
                refine zs_iload_n (pc := 40) C dX9_layPairs_40 rfl ?_
                refine zs_if_eq (tgt := 53) (pc := 41) C dX9_layPairs_41 (by decide) (fun h41 => ?_) (fun h41 => ?_)
                · skip
                  have hr2 : (rfo n (prV A W) (k + 1)) = (1, x36, dgf n k) := by rw [hr1, ← hx36]; exact if_pos (by have := h24_2.1; omega)
                  refine zs_iconst (pc := 53) C dX9_layPairs_53 (by decide) ?_
                  refine zs_istore_n (pc := 54) C dX9_layPairs_54 (by decide) ?_
                  dsimp only [zset, zclr, znone]
                  refine zs_aload_n (pc := 55) C dX9_layPairs_55 rfl ?_
                  refine zs_lload_n (pc := 56) C dX9_layPairs_56 rfl ?_
                  refine zs_putj (r := 1082) (pc := 57) C dX9_layPairs_57 w_X9_532 f_10_82 rfl ?_
                  refine zs_iconst (pc := 60) C dX9_layPairs_60 (by decide) ?_
                  refine zs_istore (pc := 61) C dX9_layPairs_61 (by decide) ?_
                  dsimp only [zset, zclr, znone]
                  have L63 : ∀ (nn : Nat) (x5 : Int) (G6 : zH), (0 ≤ x5 ∧ x5 ≤ 5) → (zsm [2104] G36 G6) → (∀ j : Nat, (j : Int) < x5 → G6.1 2104 (Γ.2.1 w 81) j = G36.1 2103 (Γ.2.1 w 80) j) → (G6.2.1 = (zuJ G36 1082 w 0 x36).2.1) → (5 - x5).toNat < nn → Z p l e (zrm 4) s m args below meth c Γ 6 0 0 (MQ below (zQc Γ (zpv (fun G' => zsm [1050, 2103, 2104] G G' ∧ (rBs Γ w n (rfo n (prV A W) K) G' ∧ zsj [2079, 2080, 1082] G G')))) args s 0 0 (zA Γ)) 63 [some (zr 10 w), some (zi 1), none, none, none, some (zi x5)] [] G6 := by
                    intro nn
                    induction nn with
                    | zero => intro x5 G6 h63_0 h63_1 h63_2 h63_3 hm; exact absurd hm (Nat.not_lt_zero _)
                    | succ nn ih63 =>
                      intro x5 G6 h63_0 h63_1 h63_2 h63_3 hm63
                      refine zs_iload (pc := 63) C dX9_layPairs_63 rfl ?_
                      refine zs_iconst (pc := 65) C dX9_layPairs_65 (by decide) ?_
                      refine zs_icmp_ge (tgt := 89) (pc := 66) C dX9_layPairs_66 (by decide) (fun h66 => ?_) (fun h66 => ?_)
                      · skip
                        have hx5 : x5 = 5 := by omega
                        rw [hx5] at h63_2
                        have stA : (1 : Int) = (rfo n (prV A W) (k + 1)).1 ∧ rBs Γ w n (rfo n (prV A W) (k + 1)) G6 := by rw [hr2]; exact ⟨rfl, Or.inr ⟨by rw [h63_3]; simp only [zuI_1, zuI_2, zuJ_1, zuJ_2, zuJ_3, zuP_1, zuP_2, zuP_3, zuC_1, zuC_2, reduceIte, Nat.reduceEqDiff, false_and, and_false, true_and, and_true, and_self, or_true, true_or, or_false, false_or], fun j hj => (h63_2 j (by omega)).trans (stD j hj)⟩⟩
                        replace stD : ∀ j : Nat, j < n → G6.1 2103 (Γ.2.1 w 80) j = dgf n k j := fun j hj => by rw [h63_1.1 2103 (by decide)]; exact stD j hj
                        replace stN : G6.1 1013 w 0 = (n : Int) := by rw [h63_1.1 1013 (by decide)]; exact stN
                        have hj6 : zsj [1082] G36 G6 := fun r hr => by rw [h63_3]; exact zsj_J (rs := [1082]) (by decide) zsj_rf r hr
                        exact zs_wk (J89 _ _ (by repeat (first | exact zsm_rf | assumption | refine zsm_C (by decide) ?_ | refine zsm_I (by decide) ?_ | refine zsm_J ?_ | refine zsm_c (by assumption) (by decide) ?_)) (by repeat (first | exact zsj_rf | assumption | refine zsj_I ?_ | refine zsj_J (by decide) ?_ | refine zsj_e (by assumption) ?_ | refine zsj_c (by assumption) (by decide) ?_)) stA stD stN) (zwk_s rfl (zwk_s rfl (zwk_n (zwk_n (zwk_n (zwk_n zwk_0))))))
                      · skip
                        refine zs_aload_n (pc := 69) C dX9_layPairs_69 rfl ?_
                        refine zs_getf (pc := 70) C dX9_layPairs_70 w_X9_160 f_10_81 (by decide) ?_
                        refine zs_iload (pc := 73) C dX9_layPairs_73 rfl ?_
                        refine zs_aload_n (pc := 75) C dX9_layPairs_75 rfl ?_
                        refine zs_getf (pc := 76) C dX9_layPairs_76 w_X9_157 f_10_80 (by decide) ?_
                        refine zs_iload (pc := 79) C dX9_layPairs_79 rfl ?_
                        refine zs_iald (r := 2103) (pc := 81) C dX9_layPairs_81 a_103 (by decide) (by omega) rfl (r_2103 _) (fun v81 e81 l81 u81 => ?_)
                        refine zs_iast (r := 2104) (pc := 82) C dX9_layPairs_82 a_104 (by decide) (by omega) rfl (r_2104 _) (by omega) ?_
                        first | refine zs_iinc (pc := 83) C dX9_layPairs_83 rfl (by decide) (by omega) ?_ | refine zs_iincF (pc := 83) C dX9_layPairs_83 rfl (by decide) (fun z83 hz831 hz832 => ?_)
                        dsimp only [zset, zclr, znone]
                        refine zs_goto (tgt := 63) (pc := 86) C dX9_layPairs_86 (by decide) ?_
                        exact zs_wk (ih63 _ _ (by omega) (by repeat (first | exact zsm_rf | assumption | refine zsm_C (by decide) ?_ | refine zsm_I (by decide) ?_ | refine zsm_J ?_ | refine zsm_c (by assumption) (by decide) ?_)) (fun j hj => by simp only [zuI_1, zuI_2, zuJ_1, zuJ_2, zuJ_3, zuP_1, zuP_2, zuP_3, zuC_1, zuC_2, reduceIte, Nat.reduceEqDiff, false_and, and_false, true_and, and_true, and_self, or_true, true_or, or_false, false_or]; by_cases y : j = x5.toNat; (rw [if_pos y, y]; first | (rw [e81]; rfl) | (rw [e81, h63_1.1 2103 (by decide)]) | omega); (rw [if_neg y]; exact h63_2 j (by omega))) h63_3 (by first | omega | (simp only [zuI_1, zuI_2, zuJ_1, zuJ_2, zuJ_3, zuP_1, zuP_2, zuP_3, zuC_1, zuC_2, reduceIte, Nat.reduceEqDiff, false_and, and_false, true_and, and_true, and_self, or_true, true_or, or_false, false_or]; omega))) (zwk_s rfl (zwk_s rfl (zwk_n (zwk_n (zwk_n (zwk_s rfl zwk_0))))))
                  exact zs_wk (L63 _ _ _ (by omega) (by repeat (first | exact zsm_rf | assumption | refine zsm_C (by decide) ?_ | refine zsm_I (by decide) ?_ | refine zsm_J ?_ | refine zsm_c (by assumption) (by decide) ?_)) (fun j hj => absurd hj (by omega)) rfl (Nat.lt_succ_self _)) (zwk_s rfl (zwk_s rfl (zwk_n (zwk_n (zwk_n (zwk_s rfl zwk_0))))))
                · skip
                  refine zs_lload_n (pc := 44) C dX9_layPairs_44 rfl ?_
                  refine zs_aload_n (pc := 45) C dX9_layPairs_45 rfl ?_
                  refine zs_getj (r := 1082) (pc := 46) C dX9_layPairs_46 w_X9_532 f_10_82 rfl (fun v46 e46 l46 u46 => ?_)
                  have y46 : v46 = (rfo n (prV A W) k).2.1 := by
                    rcases h24_2.2 with y | y
                    · exfalso
                      have := h24_2.1
                      omega
                    · exact e46.trans ((by rw [hj36 1082 (by decide)]).trans y.1)
                  refine zs_lcmp (pc := 49) C dX9_layPairs_49 (fun z49 hz49 => ?_)
                  refine zs_if_le (tgt := 89) (pc := 50) C dX9_layPairs_50 (by decide) (fun h50 => ?_) (fun h50 => ?_)
                  · skip
                    have hr2 : (rfo n (prV A W) (k + 1)) = (rfo n (prV A W) k) := by rw [hr1, ← hx36]; exact if_neg (by have := h24_2.1; omega)
                    have stA : x1 = (rfo n (prV A W) (k + 1)).1 ∧ rBs Γ w n (rfo n (prV A W) (k + 1)) G36 := by rw [hr2]; exact ⟨h24_2.1, rBs_m hz36 (by decide) hj36 (by decide) h24_2.2⟩
                    exact zs_wk (J89 _ _ (by repeat (first | exact zsm_rf | assumption | refine zsm_C (by decide) ?_ | refine zsm_I (by decide) ?_ | refine zsm_J ?_ | refine zsm_c (by assumption) (by decide) ?_)) (by repeat (first | exact zsj_rf | assumption | refine zsj_I ?_ | refine zsj_J (by decide) ?_ | refine zsj_e (by assumption) ?_ | refine zsj_c (by assumption) (by decide) ?_)) stA stD stN) (zwk_s rfl (zwk_s rfl (zwk_n (zwk_n (zwk_n (zwk_n zwk_0))))))
                  · skip
                    have hr2 : (rfo n (prV A W) (k + 1)) = (1, x36, dgf n k) := by rw [hr1, ← hx36]; exact if_pos (by have := h24_2.1; omega)
                    refine zs_iconst (pc := 53) C dX9_layPairs_53 (by decide) ?_
                    refine zs_istore_n (pc := 54) C dX9_layPairs_54 (by decide) ?_
                    dsimp only [zset, zclr, znone]
                    refine zs_aload_n (pc := 55) C dX9_layPairs_55 rfl ?_
                    refine zs_lload_n (pc := 56) C dX9_layPairs_56 rfl ?_
                    refine zs_putj (r := 1082) (pc := 57) C dX9_layPairs_57 w_X9_532 f_10_82 rfl ?_
                    refine zs_iconst (pc := 60) C dX9_layPairs_60 (by decide) ?_
                    refine zs_istore (pc := 61) C dX9_layPairs_61 (by decide) ?_
                    dsimp only [zset, zclr, znone]
                    have L63 : ∀ (nn : Nat) (x5 : Int) (G6 : zH), (0 ≤ x5 ∧ x5 ≤ 5) → (zsm [2104] G36 G6) → (∀ j : Nat, (j : Int) < x5 → G6.1 2104 (Γ.2.1 w 81) j = G36.1 2103 (Γ.2.1 w 80) j) → (G6.2.1 = (zuJ G36 1082 w 0 x36).2.1) → (5 - x5).toNat < nn → Z p l e (zrm 4) s m args below meth c Γ 6 0 0 (MQ below (zQc Γ (zpv (fun G' => zsm [1050, 2103, 2104] G G' ∧ (rBs Γ w n (rfo n (prV A W) K) G' ∧ zsj [2079, 2080, 1082] G G')))) args s 0 0 (zA Γ)) 63 [some (zr 10 w), some (zi 1), none, none, none, some (zi x5)] [] G6 := by
                      intro nn
                      induction nn with
                      | zero => intro x5 G6 h63_0 h63_1 h63_2 h63_3 hm; exact absurd hm (Nat.not_lt_zero _)
                      | succ nn ih63 =>
                        intro x5 G6 h63_0 h63_1 h63_2 h63_3 hm63
                        refine zs_iload (pc := 63) C dX9_layPairs_63 rfl ?_
                        refine zs_iconst (pc := 65) C dX9_layPairs_65 (by decide) ?_
                        refine zs_icmp_ge (tgt := 89) (pc := 66) C dX9_layPairs_66 (by decide) (fun h66 => ?_) (fun h66 => ?_)
                        · skip
                          have hx5 : x5 = 5 := by omega
                          rw [hx5] at h63_2
                          have stA : (1 : Int) = (rfo n (prV A W) (k + 1)).1 ∧ rBs Γ w n (rfo n (prV A W) (k + 1)) G6 := by rw [hr2]; exact ⟨rfl, Or.inr ⟨by rw [h63_3]; simp only [zuI_1, zuI_2, zuJ_1, zuJ_2, zuJ_3, zuP_1, zuP_2, zuP_3, zuC_1, zuC_2, reduceIte, Nat.reduceEqDiff, false_and, and_false, true_and, and_true, and_self, or_true, true_or, or_false, false_or], fun j hj => (h63_2 j (by omega)).trans (stD j hj)⟩⟩
                          replace stD : ∀ j : Nat, j < n → G6.1 2103 (Γ.2.1 w 80) j = dgf n k j := fun j hj => by rw [h63_1.1 2103 (by decide)]; exact stD j hj
                          replace stN : G6.1 1013 w 0 = (n : Int) := by rw [h63_1.1 1013 (by decide)]; exact stN
                          have hj6 : zsj [1082] G36 G6 := fun r hr => by rw [h63_3]; exact zsj_J (rs := [1082]) (by decide) zsj_rf r hr
                          exact zs_wk (J89 _ _ (by repeat (first | exact zsm_rf | assumption | refine zsm_C (by decide) ?_ | refine zsm_I (by decide) ?_ | refine zsm_J ?_ | refine zsm_c (by assumption) (by decide) ?_)) (by repeat (first | exact zsj_rf | assumption | refine zsj_I ?_ | refine zsj_J (by decide) ?_ | refine zsj_e (by assumption) ?_ | refine zsj_c (by assumption) (by decide) ?_)) stA stD stN) (zwk_s rfl (zwk_s rfl (zwk_n (zwk_n (zwk_n (zwk_n zwk_0))))))
                        · skip
                          refine zs_aload_n (pc := 69) C dX9_layPairs_69 rfl ?_
                          refine zs_getf (pc := 70) C dX9_layPairs_70 w_X9_160 f_10_81 (by decide) ?_
                          refine zs_iload (pc := 73) C dX9_layPairs_73 rfl ?_
                          refine zs_aload_n (pc := 75) C dX9_layPairs_75 rfl ?_
                          refine zs_getf (pc := 76) C dX9_layPairs_76 w_X9_157 f_10_80 (by decide) ?_
                          refine zs_iload (pc := 79) C dX9_layPairs_79 rfl ?_
                          refine zs_iald (r := 2103) (pc := 81) C dX9_layPairs_81 a_103 (by decide) (by omega) rfl (r_2103 _) (fun v81 e81 l81 u81 => ?_)
                          refine zs_iast (r := 2104) (pc := 82) C dX9_layPairs_82 a_104 (by decide) (by omega) rfl (r_2104 _) (by omega) ?_
                          first | refine zs_iinc (pc := 83) C dX9_layPairs_83 rfl (by decide) (by omega) ?_ | refine zs_iincF (pc := 83) C dX9_layPairs_83 rfl (by decide) (fun z83 hz831 hz832 => ?_)
                          dsimp only [zset, zclr, znone]
                          refine zs_goto (tgt := 63) (pc := 86) C dX9_layPairs_86 (by decide) ?_
                          exact zs_wk (ih63 _ _ (by omega) (by repeat (first | exact zsm_rf | assumption | refine zsm_C (by decide) ?_ | refine zsm_I (by decide) ?_ | refine zsm_J ?_ | refine zsm_c (by assumption) (by decide) ?_)) (fun j hj => by simp only [zuI_1, zuI_2, zuJ_1, zuJ_2, zuJ_3, zuP_1, zuP_2, zuP_3, zuC_1, zuC_2, reduceIte, Nat.reduceEqDiff, false_and, and_false, true_and, and_true, and_self, or_true, true_or, or_false, false_or]; by_cases y : j = x5.toNat; (rw [if_pos y, y]; first | (rw [e81]; rfl) | (rw [e81, h63_1.1 2103 (by decide)]) | omega); (rw [if_neg y]; exact h63_2 j (by omega))) h63_3 (by first | omega | (simp only [zuI_1, zuI_2, zuJ_1, zuJ_2, zuJ_3, zuP_1, zuP_2, zuP_3, zuC_1, zuC_2, reduceIte, Nat.reduceEqDiff, false_and, and_false, true_and, and_true, and_self, or_true, true_or, or_false, false_or]; omega))) (zwk_s rfl (zwk_s rfl (zwk_n (zwk_n (zwk_n (zwk_s rfl zwk_0))))))
                    exact zs_wk (L63 _ _ _ (by omega) (by repeat (first | exact zsm_rf | assumption | refine zsm_C (by decide) ?_ | refine zsm_I (by decide) ?_ | refine zsm_J ?_ | refine zsm_c (by assumption) (by decide) ?_)) (fun j hj => absurd hj (by omega)) rfl (Nat.lt_succ_self _)) (zwk_s rfl (zwk_s rfl (zwk_n (zwk_n (zwk_n (zwk_s rfl zwk_0))))))
        exact zs_wk (L24 _ _ _ _ _ h2_1 (by repeat (first | exact zsj_rf | assumption | refine zsj_I ?_ | refine zsj_J (by decide) ?_ | refine zsj_e (by assumption) ?_ | refine zsj_c (by assumption) (by decide) ?_)) (show (0 : Int) = (rfo n (prV A W) 0).1 ∧ rBs Γ w n (rfo n (prV A W) 0) G2 from ⟨rfl, Or.inl rfl⟩) (Or.inl ⟨rfl, hKp, fun j hj => (h2_2 j (by omega)).trans dgf_0.symm⟩) (Nat.lt_succ_self _)) (zwk_s rfl (zwk_s rfl (zwk_s rfl (zwk_n (zwk_n (zwk_n zwk_0))))))
      · skip
        refine zs_aload_n (pc := 7) C dX9_layPairs_7 rfl ?_
        refine zs_getf (pc := 8) C dX9_layPairs_8 w_X9_157 f_10_80 (by decide) ?_
        refine zs_iload_n (pc := 11) C dX9_layPairs_11 rfl ?_
        refine zs_iconst (pc := 12) C dX9_layPairs_12 (by decide) ?_
        refine zs_iast (r := 2103) (pc := 13) C dX9_layPairs_13 a_103 (by decide) (by omega) rfl (r_2103 _) (by omega) ?_
        first | refine zs_iinc (pc := 14) C dX9_layPairs_14 rfl (by decide) (by omega) ?_ | refine zs_iincF (pc := 14) C dX9_layPairs_14 rfl (by decide) (fun z14 hz141 hz142 => ?_)
        dsimp only [zset, zclr, znone]
        refine zs_goto (tgt := 2) (pc := 17) C dX9_layPairs_17 (by decide) ?_
        exact zs_wk (ih2 _ _ (by omega) (by repeat (first | exact zsm_rf | assumption | refine zsm_C (by decide) ?_ | refine zsm_I (by decide) ?_ | refine zsm_J ?_ | refine zsm_c (by assumption) (by decide) ?_)) (fun i hi => by simp only [zuI_1, zuI_2, zuJ_1, zuJ_2, zuJ_3, zuP_1, zuP_2, zuP_3, zuC_1, zuC_2, reduceIte, Nat.reduceEqDiff, false_and, and_false, true_and, and_true, and_self, or_true, true_or, or_false, false_or]; by_cases y : i = x1.toNat; (rw [if_pos y]); (rw [if_neg y]; exact h2_2 i (by omega))) (by repeat (first | exact zsj_rf | assumption | refine zsj_I ?_ | refine zsj_J (by decide) ?_ | refine zsj_e (by assumption) ?_ | refine zsj_c (by assumption) (by decide) ?_)) (by first | omega | (simp only [zuI_1, zuI_2, zuJ_1, zuJ_2, zuJ_3, zuP_1, zuP_2, zuP_3, zuC_1, zuC_2, reduceIte, Nat.reduceEqDiff, false_and, and_false, true_and, and_true, and_self, or_true, true_or, or_false, false_or]; omega))) (zwk_s rfl (zwk_s rfl (zwk_n (zwk_n (zwk_n (zwk_n zwk_0))))))
  exact zs_wk (L2 _ _ _ (by omega) zsm_rf (fun i hi => absurd hi (by omega)) zsj_rf (Nat.lt_succ_self _)) (zwk_s rfl (zwk_s rfl (zwk_n (zwk_n (zwk_n (zwk_n zwk_0))))))

set_option maxHeartbeats 4000000 in
set_option maxRecDepth 100000 in
theorem c_X9_pairsP {l : Launch} {Γ : zΓ} {G : zH} {w : Nat} {A W : aS}  (hX : zXs Γ) (hR : rW Γ w 0 W G) (hK : kR Γ w A G) (hW : WI A W) (hT : TA A)  : zMet l Γ yX9_pairs cX9_pairs 1 (some .long) 5 [zr 10 w] G (zpj (fun x G' => zsm [1050, 2103, 2104, 1002] G G' ∧ (x = (if A 4 1 = 0 then -9223372036854775808 else (rfo (A 4 1).toNat (prV A W) (((A 4 1).toNat + 1) ^ (A 4 1).toNat)).2.1) ∧ zsj [2079, 2080, 1082] G G'))) := by
  refine zMet_of RX9 hX (by decide) rfl (Nat.le_of_ble_eq_true rfl) ?_
  intro p e s m args below meth c C hr hlk
  show Z p l e (zrm 5) s m args below meth c Γ 1 0 0 (MQ below (zQc Γ (zpj (fun x G' => zsm [1050, 2103, 2104, 1002] G G' ∧ (x = (if A 4 1 = 0 then -9223372036854775808 else (rfo (A 4 1).toNat (prV A W) (((A 4 1).toNat + 1) ^ (A 4 1).toNat)).2.1) ∧ zsj [2079, 2080, 1082] G G')))) args s 0 0 (zA Γ)) 0 [some (zr 10 w)] [] G
  have hT0 := hT.1
  have k13 := hK.1.2.1
  refine zs_aload_n (pc := 0) C dX9_pairs_0 rfl ?_
  refine zs_iconst (pc := 1) C dX9_pairs_1 (by decide) ?_
  refine zs_puti (r := 1002) (pc := 2) C dX9_pairs_2 w_X9_178 f_10_2 rfl (r_1002 0) (by omega) ?_
  refine zs_aload_n (pc := 5) C dX9_pairs_5 rfl ?_
  refine zs_geti (r := 1013) (pc := 6) C dX9_pairs_6 w_X9_261 f_10_13 rfl (r_1013 0) (fun v6 e6 l6 u6 => ?_)
  try simp only [zuI_1, zuI_2, zuJ_1, zuJ_2, zuJ_3, zuP_1, zuP_2, zuP_3, zuC_1, zuC_2, reduceIte, Nat.reduceEqDiff, false_and, and_false, true_and, and_true, and_self, or_true, true_or, or_false, false_or] at e6
  have y6 : v6 = A 4 1 := e6.trans k13
  subst y6
  refine zs_if_ne (tgt := 16) (pc := 9) C dX9_pairs_9 (by decide) (fun h9 => ?_) (fun h9 => ?_)
  · skip
    refine zs_aload_n (pc := 16) C dX9_pairs_16 rfl ?_
    refine zVv0 (pc := 17) C dX9_pairs_17 v_X9_538 (c_X9_layPairsP (n := (A 4 1).toNat) (A := A) (W := W) hX (by repeat (first | assumption | refine rW_sm (by assumption) (by decide) ?_ | refine rW_I (by decide) ?_ | refine rW_J ?_)) (by repeat (first | assumption | refine kR_sm (by assumption) (by decide) ?_ | refine kR_I (by decide) ?_ | refine kR_J ?_)) hW hT (by omega) (by omega) rfl) (by decide) (by decide) ⟨Nat.zero_le _, Nat.zero_le _⟩ (Nat.le_of_ble_eq_true rfl) (fun G17 hp17 => ?_)
    obtain ⟨hz17, hq17⟩ := hp17
    try simp only [zuI_1, zuI_2, zuJ_1, zuJ_2, zuJ_3, zuP_1, zuP_2, zuP_3, zuC_1, zuC_2, reduceIte, Nat.reduceEqDiff, false_and, and_false, true_and, and_true, and_self, or_true, true_or, or_false, false_or] at hq17
    have hpr := prR_n (n := (A 4 1).toNat) (by omega) (prV A W)
    have hy1 : (rfo (A 4 1).toNat (prV A W) (((A 4 1).toNat + 1) ^ (A 4 1).toNat)).1 = 1 := hpr.1.1.symm.trans hpr.2
    have hj17 := hq17.2
    refine zs_aload_n (pc := 20) C dX9_pairs_20 rfl ?_
    refine zs_getj (r := 1082) (pc := 21) C dX9_pairs_21 w_X9_532 f_10_82 rfl (fun v21 e21 l21 u21 => ?_)
    exact zs_lret (pc := 24) C hr hlk dX9_pairs_24 ⟨(by repeat (first | exact zsm_rf | assumption | refine zsm_C (by decide) ?_ | refine zsm_I (by decide) ?_ | refine zsm_J ?_ | refine zsm_c (by assumption) (by decide) ?_)), ⟨(by rw [if_neg (by omega)]; rcases hq17.1 with y | y; (exact absurd y (by rw [hy1]; decide)); (exact e20.trans y.1)), (by repeat (first | exact zsj_rf | assumption | refine zsj_I ?_ | refine zsj_J (by decide) ?_ | refine zsj_e (by assumption) ?_ | refine zsj_c (by assumption) (by decide) ?_))⟩⟩
  · skip
    refine zs_ldc2 (n := -9223372036854775808) (pc := 12) C dX9_pairs_12 q_X9_433 (by decide) (by decide) ?_
    exact zs_lret (pc := 15) C hr hlk dX9_pairs_15 ⟨(by repeat (first | exact zsm_rf | assumption | refine zsm_C (by decide) ?_ | refine zsm_I (by decide) ?_ | refine zsm_J ?_ | refine zsm_c (by assumption) (by decide) ?_)), ⟨by rw [if_pos (by omega)], (by repeat (first | exact zsj_rf | assumption | refine zsj_I ?_ | refine zsj_J (by decide) ?_ | refine zsj_e (by assumption) ?_ | refine zsj_c (by assumption) (by decide) ?_))⟩⟩

set_option maxHeartbeats 4000000 in
set_option maxRecDepth 100000 in
theorem c_X9_pairedP {l : Launch} {Γ : zΓ} {G : zH} {w : Nat} {a : Int} {A W : aS}  (hX : zXs Γ) (hR : rW Γ w 0 W G) (hK : kR Γ w A G) (hW : WI A W) (hT : TA A)  : zMet l Γ yX9_paired cX9_paired 2 (some .int) 5 [zr 10 w, zi a] G (zpi (fun x G' => zsm [1050, 2103, 2104, 1002] G G' ∧ (x = (if (0 ≤ a ∧ a < A 4 1) then (if (rfo (A 4 1).toNat (prV A W) (((A 4 1).toNat + 1) ^ (A 4 1).toNat)).2.2 a.toNat = A 4 1 then -2 else (rfo (A 4 1).toNat (prV A W) (((A 4 1).toNat + 1) ^ (A 4 1).toNat)).2.2 a.toNat) else -1) ∧ zsj [2079, 2080, 1082] G G'))) := by
  refine zMet_of RX9 hX (by decide) rfl (Nat.le_of_ble_eq_true rfl) ?_
  intro p e s m args below meth c C hr hlk
  show Z p l e (zrm 5) s m args below meth c Γ 2 0 0 (MQ below (zQc Γ (zpi (fun x G' => zsm [1050, 2103, 2104, 1002] G G' ∧ (x = (if (0 ≤ a ∧ a < A 4 1) then (if (rfo (A 4 1).toNat (prV A W) (((A 4 1).toNat + 1) ^ (A 4 1).toNat)).2.2 a.toNat = A 4 1 then -2 else (rfo (A 4 1).toNat (prV A W) (((A 4 1).toNat + 1) ^ (A 4 1).toNat)).2.2 a.toNat) else -1) ∧ zsj [2079, 2080, 1082] G G')))) args s 0 0 (zA Γ)) 0 [some (zr 10 w), some (zi a)] [] G
  refine zs_loc 1 rfl (fun ha1 hb1 => ?_)
  have hT0 := hT.1
  have k13 := hK.1.2.1
  refine zs_aload_n (pc := 0) C dX9_paired_0 rfl ?_
  refine zs_iconst (pc := 1) C dX9_paired_1 (by decide) ?_
  refine zs_puti (r := 1002) (pc := 2) C dX9_paired_2 w_X9_178 f_10_2 rfl (r_1002 0) (by omega) ?_
  refine zs_aload_n (pc := 5) C dX9_paired_5 rfl ?_
  refine zs_iload_n (pc := 6) C dX9_paired_6 rfl ?_
  refine zVip1 (pc := 7) C dX9_paired_7 v_X9_398 (c_X9_isPersonW (A := A) hX (by repeat (first | assumption | refine kR_sm (by assumption) (by decide) ?_ | refine kR_I (by decide) ?_ | refine kR_J ?_))) (by decide) (by decide) ⟨Nat.zero_le _, Nat.zero_le _⟩ (Nat.le_of_ble_eq_true rfl) (fun x7 l7 u7 hp7 => ?_)
  have hq7 := hp7
  try simp only [zuI_1, zuI_2, zuJ_1, zuJ_2, zuJ_3, zuP_1, zuP_2, zuP_3, zuC_1, zuC_2, reduceIte, Nat.reduceEqDiff, false_and, and_false, true_and, and_true, and_self, or_true, true_or, or_false, false_or] at hq7
  have hv7 : x7 = 1 ↔ 0 ≤ a ∧ a < A 4 1 := hq7.2
  have hw7 := hq7.1
  refine zs_if_ne (tgt := 15) (pc := 10) C dX9_paired_10 (by decide) (fun h10 => ?_) (fun h10 => ?_)
  · skip
    have hok : 0 ≤ a ∧ a < A 4 1 := hv7.mp (by omega)
    refine zs_aload_n (pc := 15) C dX9_paired_15 rfl ?_
    refine zVv0 (pc := 16) C dX9_paired_16 v_X9_538 (c_X9_layPairsP (n := (A 4 1).toNat) (A := A) (W := W) hX (by repeat (first | assumption | refine rW_sm (by assumption) (by decide) ?_ | refine rW_I (by decide) ?_ | refine rW_J ?_)) (by repeat (first | assumption | refine kR_sm (by assumption) (by decide) ?_ | refine kR_I (by decide) ?_ | refine kR_J ?_)) hW hT (by omega) (by omega) rfl) (by decide) (by decide) ⟨Nat.zero_le _, Nat.zero_le _⟩ (Nat.le_of_ble_eq_true rfl) (fun G16 hp16 => ?_)
    obtain ⟨hz16, hq16⟩ := hp16
    try simp only [zuI_1, zuI_2, zuJ_1, zuJ_2, zuJ_3, zuP_1, zuP_2, zuP_3, zuC_1, zuC_2, reduceIte, Nat.reduceEqDiff, false_and, and_false, true_and, and_true, and_self, or_true, true_or, or_false, false_or] at hq16
    have hpr := prR_n (n := (A 4 1).toNat) (by omega) (prV A W)
    have hy1 : (rfo (A 4 1).toNat (prV A W) (((A 4 1).toNat + 1) ^ (A 4 1).toNat)).1 = 1 := hpr.1.1.symm.trans hpr.2
    have hj16 := hq16.2
    have hbs : ∀ j : Nat, j < (A 4 1).toNat → G16.1 2104 (Γ.2.1 w 81) j = (rfo (A 4 1).toNat (prV A W) (((A 4 1).toNat + 1) ^ (A 4 1).toNat)).2.2 j := by
      rcases hq16.1 with y | y
      · exact absurd y (by rw [hy1]; decide)
      · exact y.2
    refine zs_aload_n (pc := 19) C dX9_paired_19 rfl ?_
    refine zs_getf (pc := 20) C dX9_paired_20 w_X9_160 f_10_81 (by decide) ?_
    refine zs_iload_n (pc := 23) C dX9_paired_23 rfl ?_
    refine zs_iald (r := 2104) (pc := 24) C dX9_paired_24 a_104 (by decide) (by omega) rfl (r_2104 _) (fun v24 e24 l24 u24 => ?_)
    have y24 : v24 = (rfo (A 4 1).toNat (prV A W) (((A 4 1).toNat + 1) ^ (A 4 1).toNat)).2.2 a.toNat := e24.trans (hbs a.toNat (by omega))
    refine zs_aload_n (pc := 25) C dX9_paired_25 rfl ?_
    refine zs_geti (r := 1013) (pc := 26) C dX9_paired_26 w_X9_261 f_10_13 rfl (r_1013 0) (fun v26 e26 l26 u26 => ?_)
    have y26 : v26 = A 4 1 := e26.trans (by rw [hz16.1 1013 (by decide)]; first | exact k13 | (simp only [zuI_1, zuI_2, zuJ_1, zuJ_2, zuJ_3, zuP_1, zuP_2, zuP_3, zuC_1, zuC_2, reduceIte, Nat.reduceEqDiff, false_and, and_false, true_and, and_true, and_self, or_true, true_or, or_false, false_or]; exact k13))
    refine zs_icmp_ne (tgt := 37) (pc := 29) C dX9_paired_29 (by decide) (fun h29 => ?_) (fun h29 => ?_)
    · skip
      have hpf : ¬ (rfo (A 4 1).toNat (prV A W) (((A 4 1).toNat + 1) ^ (A 4 1).toNat)).2.2 a.toNat = A 4 1 := by omega
      refine zs_aload_n (pc := 37) C dX9_paired_37 rfl ?_
      refine zs_getf (pc := 38) C dX9_paired_38 w_X9_160 f_10_81 (by decide) ?_
      refine zs_iload_n (pc := 41) C dX9_paired_41 rfl ?_
      refine zs_iald (r := 2104) (pc := 42) C dX9_paired_42 a_104 (by decide) (by omega) rfl (r_2104 _) (fun v42 e42 l42 u42 => ?_)
      exact zs_iret (pc := 43) C hr hlk dX9_paired_43 ⟨(by repeat (first | exact zsm_rf | assumption | refine zsm_C (by decide) ?_ | refine zsm_I (by decide) ?_ | refine zsm_J ?_ | refine zsm_c (by assumption) (by decide) ?_)), ⟨(by rw [if_pos hok]; first | (rw [if_pos (show _ from hpt)]; done) | (rw [if_neg hpf]; exact y42)), (by repeat (first | exact zsj_rf | assumption | refine zsj_I ?_ | refine zsj_J (by decide) ?_ | refine zsj_e (by assumption) ?_ | refine zsj_c (by assumption) (by decide) ?_))⟩⟩
    · skip
      have hpt : (rfo (A 4 1).toNat (prV A W) (((A 4 1).toNat + 1) ^ (A 4 1).toNat)).2.2 a.toNat = A 4 1 := by omega
      refine zs_bipush (pc := 32) C dX9_paired_32 (by decide) (by decide) ?_
      refine zs_goto (tgt := 43) (pc := 34) C dX9_paired_34 (by decide) ?_
      exact zs_iret (pc := 43) C hr hlk dX9_paired_43 ⟨(by repeat (first | exact zsm_rf | assumption | refine zsm_C (by decide) ?_ | refine zsm_I (by decide) ?_ | refine zsm_J ?_ | refine zsm_c (by assumption) (by decide) ?_)), ⟨(by rw [if_pos hok]; first | (rw [if_pos (show _ from hpt)]; done) | (rw [if_neg hpf]; exact y42)), (by repeat (first | exact zsj_rf | assumption | refine zsj_I ?_ | refine zsj_J (by decide) ?_ | refine zsj_e (by assumption) ?_ | refine zsj_c (by assumption) (by decide) ?_))⟩⟩
  · skip
    have hno : ¬ (0 ≤ a ∧ a < A 4 1) := fun z => by have := hv7.mpr z; omega
    refine zs_iconst (pc := 13) C dX9_paired_13 (by decide) ?_
    exact zs_iret (pc := 14) C hr hlk dX9_paired_14 ⟨(by repeat (first | exact zsm_rf | assumption | refine zsm_C (by decide) ?_ | refine zsm_I (by decide) ?_ | refine zsm_J ?_ | refine zsm_c (by assumption) (by decide) ?_)), ⟨by rw [if_neg hno], (by repeat (first | exact zsj_rf | assumption | refine zsj_I ?_ | refine zsj_J (by decide) ?_ | refine zsj_e (by assumption) ?_ | refine zsj_c (by assumption) (by decide) ?_))⟩⟩

set_option maxHeartbeats 4000000 in
set_option maxRecDepth 100000 in
theorem c_X8_pairsK {l : Launch} {Γ : zΓ} {G : zH} {w t : Nat} {A W : aS}  (hX : zXs Γ) (hZ : QQ Γ (Γ.2.1 w 4) t A W G) (hI : G.2.2 903 w = t) (hW : WI A W) (hT : TA A)  : zMet l Γ yX8_pairs cX8_pairs 1 (some .long) 10 [zr 9 w] G (zpj (fun x G' => zsm [103, 105, 2011, 2012] G G' ∧ (x = (if A 4 1 = 0 then -9223372036854775808 else (prX (A 4 1).toNat (prV A W)).2.1)))) := by
  refine zMet_of RX8 hX (by decide) rfl (Nat.le_of_ble_eq_true rfl) ?_
  intro p e s m args below meth c C hr hlk
  show Z p l e (zrm 10) s m args below meth c Γ 1 0 0 (MQ below (zQc Γ (zpj (fun x G' => zsm [103, 105, 2011, 2012] G G' ∧ (x = (if A 4 1 = 0 then -9223372036854775808 else (prX (A 4 1).toNat (prV A W)).2.1))))) args s 0 0 (zA Γ)) 0 [some (zr 9 w)] [] G
  have hT0 := hT.1
  refine zs_aload_n (pc := 0) C dX8_pairs_0 rfl ?_
  refine zs_getd (r := 903) (pc := 1) C dX8_pairs_1 w_X8_25 f_9_3 (by decide) rfl (fun v1 e1 t1 => ?_)
  rw [hI] at e1
  subst v1
  refine zs_getf (pc := 4) C dX8_pairs_4 w_X8_262 f_6_2 (by decide) ?_
  refine zs_iconst (pc := 7) C dX8_pairs_7 (by decide) ?_
  refine zs_iald (r := 2037) (pc := 8) C dX8_pairs_8 a_37 (by decide) (by omega) rfl rfl (fun v8 e8 l8 u8 => ?_)
  try simp only [QQ_2037 hZ, Int.reduceToNat] at e8
  try subst v8
  refine zs_if_ne (tgt := 16) (pc := 9) C dX8_pairs_9 (by decide) (fun h9 => ?_) (fun h9 => ?_)
  · skip
    refine zs_aload_n (pc := 16) C dX8_pairs_16 rfl ?_
    refine zs_getf (pc := 17) C dX8_pairs_17 w_X8_56 f_9_8 (by decide) ?_
    refine zs_aload_n (pc := 20) C dX8_pairs_20 rfl ?_
    refine zs_getf (pc := 21) C dX8_pairs_21 w_X8_34 f_9_4 (by decide) ?_
    refine zVv1 (pc := 24) C dX8_pairs_24 v_X8_306 (c_X0_bringTogetherP (A := A) (W := W) (t := t) hX hZ hW hT) (by decide) (by decide) ⟨Nat.zero_le _, Nat.zero_le _⟩ (Nat.le_of_ble_eq_true rfl) (fun G24 hp24 => ?_)
    obtain ⟨hz24, hq24⟩ := hp24
    refine zs_aload_n (pc := 27) C dX8_pairs_27 rfl ?_
    refine zs_getf (pc := 28) C dX8_pairs_28 w_X8_56 f_9_8 (by decide) ?_
    refine zs_getj (r := 104) (pc := 31) C dX8_pairs_31 w_X8_309 f_1_4 rfl (fun v31 e31 l31 u31 => ?_)
    exact zs_lret (pc := 34) C hr hlk dX8_pairs_34 ⟨(by repeat (first | exact zsm_rf | assumption | refine zsm_C (by decide) ?_ | refine zsm_I (by decide) ?_ | refine zsm_J ?_ | refine zsm_c (by assumption) (by decide) ?_)), (by rw [if_neg (by omega)]; exact e31.trans hq24.2.2.1)⟩
  · skip
    refine zs_ldc2 (n := -9223372036854775808) (pc := 12) C dX8_pairs_12 q_X8_152 (by decide) (by decide) ?_
    exact zs_lret (pc := 15) C hr hlk dX8_pairs_15 ⟨(by repeat (first | exact zsm_rf | assumption | refine zsm_C (by decide) ?_ | refine zsm_I (by decide) ?_ | refine zsm_J ?_ | refine zsm_c (by assumption) (by decide) ?_)), by rw [if_pos (by omega)]⟩

set_option maxHeartbeats 4000000 in
set_option maxRecDepth 100000 in
theorem c_X8_pairedK {l : Launch} {Γ : zΓ} {G : zH} {w t : Nat} {A W : aS} {a : Int} (hX : zXs Γ) (hZ : QQ Γ (Γ.2.1 w 4) t A W G) (hI : G.2.2 903 w = t) (hW : WI A W) (hT : TA A)  : zMet l Γ yX8_paired cX8_paired 3 (some .int) 10 [zr 9 w, zi a] G (zpi (fun x G' => zsm [103, 105, 2011, 2012] G G' ∧ (x = (if (0 ≤ a ∧ a < A 4 1) then (if (prX (A 4 1).toNat (prV A W)).2.2 a.toNat = -1 then -2 else (prX (A 4 1).toNat (prV A W)).2.2 a.toNat) else -1)))) := by
  refine zMet_of RX8 hX (by decide) rfl (Nat.le_of_ble_eq_true rfl) ?_
  intro p e s m args below meth c C hr hlk
  show Z p l e (zrm 10) s m args below meth c Γ 3 0 0 (MQ below (zQc Γ (zpi (fun x G' => zsm [103, 105, 2011, 2012] G G' ∧ (x = (if (0 ≤ a ∧ a < A 4 1) then (if (prX (A 4 1).toNat (prV A W)).2.2 a.toNat = -1 then -2 else (prX (A 4 1).toNat (prV A W)).2.2 a.toNat) else -1))))) args s 0 0 (zA Γ)) 0 [some (zr 9 w), some (zi a), none] [] G
  refine zs_loc 1 rfl (fun ha1 hb1 => ?_)
  have hT0 := hT.1
  refine zs_aload_n (pc := 0) C dX8_paired_0 rfl ?_
  refine zs_getd (r := 903) (pc := 1) C dX8_paired_1 w_X8_25 f_9_3 (by decide) rfl (fun v1 e1 t1 => ?_)
  rw [hI] at e1
  subst v1
  refine zs_iconst (pc := 4) C dX8_paired_4 (by decide) ?_
  refine zs_iload_n (pc := 5) C dX8_paired_5 rfl ?_
  refine zVip2 (pc := 6) C dX8_paired_6 v_X8_104 (c_X5_hasT hX hZ.2.1 (by decide)) (by decide) (by decide) ⟨Nat.zero_le _, Nat.zero_le _⟩ (Nat.le_of_ble_eq_true rfl) (fun x6 l6 u6 hp6 => ?_)
  have hq6 := hp6
  have hv6 : x6 = 1 ↔ 0 ≤ a ∧ a < A 4 1 := hq6.2
  have hw6 := hq6.1
  refine zs_if_ne (tgt := 14) (pc := 9) C dX8_paired_9 (by decide) (fun h9 => ?_) (fun h9 => ?_)
  · skip
    have hok : 0 ≤ a ∧ a < A 4 1 := hv6.mp (by omega)
    refine zs_aload_n (pc := 14) C dX8_paired_14 rfl ?_
    refine zs_getf (pc := 15) C dX8_paired_15 w_X8_56 f_9_8 (by decide) ?_
    refine zs_aload_n (pc := 18) C dX8_paired_18 rfl ?_
    refine zs_getf (pc := 19) C dX8_paired_19 w_X8_34 f_9_4 (by decide) ?_
    refine zVv1 (pc := 22) C dX8_paired_22 v_X8_306 (c_X0_bringTogetherP (A := A) (W := W) (t := t) hX hZ hW hT) (by decide) (by decide) ⟨Nat.zero_le _, Nat.zero_le _⟩ (Nat.le_of_ble_eq_true rfl) (fun G22 hp22 => ?_)
    obtain ⟨hz22, hq22⟩ := hp22
    have hpr := prR_n (n := (A 4 1).toNat) (by omega) (prV A W)
    have hbs : ∀ j : Nat, j < (A 4 1).toNat → G22.1 2012 (Γ.2.1 (Γ.2.1 w 8) 1) j = (prX (A 4 1).toNat (prV A W)).2.2 j := by
      rcases hq22.2.2.2 with y | y
      · exact absurd y (by rw [hpr.2]; decide)
      · exact y
    refine zs_aload_n (pc := 25) C dX8_paired_25 rfl ?_
    refine zs_getf (pc := 26) C dX8_paired_26 w_X8_56 f_9_8 (by decide) ?_
    refine zs_getf (pc := 29) C dX8_paired_29 w_X8_313 f_1_1 (by decide) ?_
    refine zs_iload_n (pc := 32) C dX8_paired_32 rfl ?_
    refine zs_iald (r := 2012) (pc := 33) C dX8_paired_33 a_12 (by decide) (by omega) rfl (r_2012 _) (fun v33 e33 l33 u33 => ?_)
    have y33 : v33 = (prX (A 4 1).toNat (prV A W)).2.2 a.toNat := e33.trans (hbs a.toNat (by omega))
    subst y33
    refine zs_istore_n (pc := 34) C dX8_paired_34 (by decide) ?_
    dsimp only [zset, zclr, znone]
    refine zs_iload_n (pc := 35) C dX8_paired_35 rfl ?_
    refine zs_iconst (pc := 36) C dX8_paired_36 (by decide) ?_
    refine zs_icmp_ne (tgt := 45) (pc := 37) C dX8_paired_37 (by decide) (fun h37 => ?_) (fun h37 => ?_)
    · skip
      refine zs_iload_n (pc := 45) C dX8_paired_45 rfl ?_
      exact zs_iret (pc := 46) C hr hlk dX8_paired_46 ⟨(by repeat (first | exact zsm_rf | assumption | refine zsm_C (by decide) ?_ | refine zsm_I (by decide) ?_ | refine zsm_J ?_ | refine zsm_c (by assumption) (by decide) ?_)), (by rw [if_pos hok]; first | (rw [if_neg (by omega)]; done) | (rw [if_pos (by omega)]))⟩
    · skip
      refine zs_bipush (pc := 40) C dX8_paired_40 (by decide) (by decide) ?_
      refine zs_goto (tgt := 46) (pc := 42) C dX8_paired_42 (by decide) ?_
      exact zs_iret (pc := 46) C hr hlk dX8_paired_46 ⟨(by repeat (first | exact zsm_rf | assumption | refine zsm_C (by decide) ?_ | refine zsm_I (by decide) ?_ | refine zsm_J ?_ | refine zsm_c (by assumption) (by decide) ?_)), (by rw [if_pos hok]; first | (rw [if_neg (by omega)]; done) | (rw [if_pos (by omega)]))⟩
  · skip
    have hno : ¬ (0 ≤ a ∧ a < A 4 1) := fun z => by have := hv6.mpr z; omega
    refine zs_iconst (pc := 12) C dX8_paired_12 (by decide) ?_
    exact zs_iret (pc := 13) C hr hlk dX8_paired_13 ⟨(by repeat (first | exact zsm_rf | assumption | refine zsm_C (by decide) ?_ | refine zsm_I (by decide) ?_ | refine zsm_J ?_ | refine zsm_c (by assumption) (by decide) ?_)), by rw [if_neg hno]⟩
