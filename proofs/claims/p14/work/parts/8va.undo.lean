theorem wUndo_k {W : aS} {x : Int} (ho : wOK W x) : (wUndo W x) 0 0 ≤ W 0 0 ∧ (wUndo W x) 22 0 = W 22 0 ∧ (wUndo W x) 21 0 = W 21 0 ∧ ∀ f k : Nat, 1 ≤ f → f ≤ 10 → f ≠ 5 → (k : Int) < (wUndo W x) 0 0 → (wUndo W x) f k = W f k := by
  unfold wUndo
  rcases ho with ⟨a, b, c⟩ | a | ⟨a, b, c⟩
  · rw [if_neg (by omega), if_neg (by omega)]
    obtain ⟨u0, u1, u15, u21, -⟩ := wUg_ev W (by omega)
    exact ⟨by omega, u21 22 0 (by omega), u21 21 0 (by omega), fun f k h1 h2 h3 h4 => u1 f k h1 (by omega)⟩
  · rw [if_neg (by omega), if_pos (by omega)]
    obtain ⟨-, -, -, uf⟩ := wUf_ev W ((x - 1) / 4) ((x - 1) % 4)
    exact ⟨by rw [uf 0 0 (by decide) (by decide) (by decide)]; exact Int.le_refl _, uf 22 0 (by decide) (by decide) (by decide), uf 21 0 (by decide) (by decide) (by decide), fun f k h1 h2 h3 h4 => uf f k (by omega) (by omega) (by omega)⟩
  · rw [if_pos (by omega)]
    obtain ⟨-, -, uf⟩ := wUk_ev W (x - 21)
    exact ⟨by rw [uf 0 0 (by decide) (by decide)]; exact Int.le_refl _, uf 22 0 (by decide) (by decide), uf 21 0 (by decide) (by decide), fun f k h1 h2 h3 h4 => uf f k h3 (by omega)⟩

set_option maxHeartbeats 4000000 in
set_option maxRecDepth 100000 in
theorem c_X9_rememberW {l : Launch} {Γ : zΓ} {G : zH} {w : Nat} {n : Int} {W : aS} {Ws : Nat → aS}  (hX : zXs Γ) (hn : G.1 1084 w 0 = n) (hn2 : 0 ≤ n ∧ n ≤ 20) (hB : bR Γ w Ws n G) (hQ : wQ W (Ws n.toNat)) (hR : rW Γ w 0 W G)  : zMet l Γ yX9_remember cX9_remember 2 none 1 [zr 10 w] G (zpv (fun G' => zsm [2105, 1084] G G' ∧ ((n < 20 → bR Γ w Ws (n + 1) G' ∧ G'.1 1084 w 0 = n + 1) ∧ (¬ n < 20 → bR Γ w (fun i => Ws (i + 1)) 20 G' ∧ G'.1 1084 w 0 = 20) ∧ G'.2.1 = G.2.1))) := by
  refine zMet_of RX9 hX (by decide) rfl (Nat.le_of_ble_eq_true rfl) ?_
  intro p e s m args below meth c C hr hlk
  show Z p l e (zrm 1) s m args below meth c Γ 2 0 0 (MQ below (zQc Γ (zpv (fun G' => zsm [2105, 1084] G G' ∧ ((n < 20 → bR Γ w Ws (n + 1) G' ∧ G'.1 1084 w 0 = n + 1) ∧ (¬ n < 20 → bR Γ w (fun i => Ws (i + 1)) 20 G' ∧ G'.1 1084 w 0 = 20) ∧ G'.2.1 = G.2.1)))) args s 0 0 (zA Γ)) 0 [some (zr 10 w), none] [] G
  refine zs_aload_n (pc := 0) C dX9_remember_0 rfl ?_
  refine zs_geti (r := 1084) (pc := 1) C dX9_remember_1 w_X9_382 f_10_84 rfl (r_1084 0) (fun v1 e1 l1 u1 => ?_)
  refine zs_bipush (pc := 4) C dX9_remember_4 (by decide) (by decide) ?_
  refine zs_icmp_ne (tgt := 49) (pc := 6) C dX9_remember_6 (by decide) (fun h6 => ?_) (fun h6 => ?_)
  · skip
    have hn20 : n < 20 := by omega
    have hBe1 := hB
    refine zs_aload_n (pc := 49) C dX9_remember_49 rfl ?_
    refine zs_aload_n (pc := 50) C dX9_remember_50 rfl ?_
    refine zs_getf (pc := 51) C dX9_remember_51 w_X9_163 f_10_85 (by decide) ?_
    refine zs_bipush (pc := 54) C dX9_remember_54 (by decide) (by decide) ?_
    refine zs_aload_n (pc := 56) C dX9_remember_56 rfl ?_
    refine zs_geti (r := 1084) (pc := 57) C dX9_remember_57 w_X9_382 f_10_84 rfl (r_1084 0) (fun v57 e57 l57 u57 => ?_)
    first | refine zs_imul (pc := 60) C dX9_remember_60 (by omega) ?_ | refine zs_imulF (pc := 60) C dX9_remember_60 (fun z60 hz601 hz602 => ?_)
    refine zVv2 (pc := 61) C dX9_remember_61 v_X9_547 (c_X9_putW5 hX (by omega)) (by decide) (by decide) ⟨Nat.zero_le _, Nat.zero_le _⟩ (Nat.le_of_ble_eq_true rfl) (fun G61 hp61 => ?_)
    obtain ⟨hz61, hq61⟩ := hp61
    have t1084 := zsm_at hz61 1084 w 0 (by decide)
    try simp only [zuI_1, zuI_2, zuJ_1, zuJ_2, zuJ_3, zuP_1, zuP_2, zuP_3, zuC_1, zuC_2, reduceIte, Nat.reduceEqDiff, false_and, and_false, true_and, and_true, and_self, or_true, true_or, or_false, false_or] at t1084
    obtain ⟨p61, o61, j61⟩ := hq61
    have hEnd : (n < 20 → bR Γ w Ws (n + 1) G61) ∧ (¬ n < 20 → bR Γ w (fun i => Ws (i + 1)) 20 G61) := by
      first
      | exact ⟨fun _ => bR_put (n := n) (by omega) rfl (by omega) hBe1 hQ hR p61 o61, fun z => absurd hn20 z⟩
      | exact ⟨fun z => absurd z (by omega), fun _ => bR_put (n := 19) (by omega) rfl (by decide) (bR_z (rs := [1084]) (zsm_I (by simp) zsm_rf) (by decide)  hBe2) hQ20 (by repeat (first | assumption | refine rW_sm (by assumption) (by decide) ?_ | refine rW_I (by decide) ?_ | refine rW_J ?_)) p61 o61⟩
    have hJe : G61.2.1 = G.2.1 := by first | exact j61 | exact j61.trans h11_4
    refine zs_aload_n (pc := 64) C dX9_remember_64 rfl ?_
    refine zs_dupa (pc := 65) C dX9_remember_65 ?_
    refine zs_geti (r := 1084) (pc := 66) C dX9_remember_66 w_X9_382 f_10_84 rfl (r_1084 0) (fun v66 e66 l66 u66 => ?_)
    refine zs_iconst (pc := 69) C dX9_remember_69 (by decide) ?_
    first | refine zs_iadd (pc := 70) C dX9_remember_70 (by omega) ?_ | refine zs_iaddF (pc := 70) C dX9_remember_70 (fun z70 hz701 hz702 => ?_)
    refine zs_puti (r := 1084) (pc := 71) C dX9_remember_71 w_X9_382 f_10_84 rfl (r_1084 0) (by omega) ?_
    exact zs_vret (pc := 74) C hr hlk dX9_remember_74 ⟨by repeat (first | exact zsm_rf | assumption | refine zsm_C (by decide) ?_ | refine zsm_I (by decide) ?_ | refine zsm_J ?_ | refine zsm_c (by assumption) (by decide) ?_), ⟨fun z => ⟨bR_z (rs := [1084]) (zsm_I (by simp) zsm_rf) (by decide)  (hEnd.1 z), (by simp only [zuI_1, zuI_2, zuJ_1, zuJ_2, zuJ_3, zuP_1, zuP_2, zuP_3, zuC_1, zuC_2, reduceIte, Nat.reduceEqDiff, false_and, and_false, true_and, and_true, and_self, or_true, true_or, or_false, false_or]; omega)⟩, fun z => ⟨bR_z (rs := [1084]) (zsm_I (by simp) zsm_rf) (by decide)  (hEnd.2 z), (by simp only [zuI_1, zuI_2, zuJ_1, zuJ_2, zuJ_3, zuP_1, zuP_2, zuP_3, zuC_1, zuC_2, reduceIte, Nat.reduceEqDiff, false_and, and_false, true_and, and_true, and_self, or_true, true_or, or_false, false_or]; omega)⟩, hJe⟩⟩
  · skip
    refine zs_iconst (pc := 9) C dX9_remember_9 (by decide) ?_
    refine zs_istore_n (pc := 10) C dX9_remember_10 (by decide) ?_
    dsimp only [zset, zclr, znone]
    have L11 : ∀ (nn : Nat) (x1 : Int) (G1 : zH), (0 ≤ x1 ∧ x1 ≤ 2413) → (zsm [2105] G G1) → (∀ j : Nat, (j : Int) < x1 → G1.1 2105 (Γ.2.1 w 85) j = G.1 2105 (Γ.2.1 w 85) (j + 127)) → (∀ j : Nat, x1 ≤ (j : Int) → G1.1 2105 (Γ.2.1 w 85) j = G.1 2105 (Γ.2.1 w 85) j) → (G1.2.1 = G.2.1) → (2413 - x1).toNat < nn → Z p l e (zrm 1) s m args below meth c Γ 2 0 0 (MQ below (zQc Γ (zpv (fun G' => zsm [2105, 1084] G G' ∧ ((n < 20 → bR Γ w Ws (n + 1) G' ∧ G'.1 1084 w 0 = n + 1) ∧ (¬ n < 20 → bR Γ w (fun i => Ws (i + 1)) 20 G' ∧ G'.1 1084 w 0 = 20) ∧ G'.2.1 = G.2.1)))) args s 0 0 (zA Γ)) 11 [some (zr 10 w), some (zi x1)] [] G1 := by
      intro nn
      induction nn with
      | zero => intro x1 G1 h11_0 h11_1 h11_2 h11_3 h11_4 hm; exact absurd hm (Nat.not_lt_zero _)
      | succ nn ih11 =>
        intro x1 G1 h11_0 h11_1 h11_2 h11_3 h11_4 hm11
        have t84 := zsm_at h11_1 1084 w 0 (by decide)
        refine zs_iload_n (pc := 11) C dX9_remember_11 rfl ?_
        refine zs_sipush (pc := 12) C dX9_remember_12 (by decide) (by decide) ?_
        refine zs_icmp_ge (tgt := 39) (pc := 15) C dX9_remember_15 (by decide) (fun h15 => ?_) (fun h15 => ?_)
        · skip
          have hn20 : n = 20 := by omega
          have hB20 : bR Γ w Ws 20 G := by rw [← hn20]; exact hB
          have hBe2 := bR_sh (Ws := Ws) h11_2 (by omega) hB20
          have hQ20 : wQ W ((fun i => Ws (i + 1)) (19 : Int).toNat) := by have q := hQ; rw [hn20] at q; exact q
          refine zs_aload_n (pc := 39) C dX9_remember_39 rfl ?_
          refine zs_dupa (pc := 40) C dX9_remember_40 ?_
          refine zs_geti (r := 1084) (pc := 41) C dX9_remember_41 w_X9_382 f_10_84 rfl (r_1084 0) (fun v41 e41 l41 u41 => ?_)
          refine zs_iconst (pc := 44) C dX9_remember_44 (by decide) ?_
          first | refine zs_isub (pc := 45) C dX9_remember_45 (by omega) ?_ | refine zs_isubF (pc := 45) C dX9_remember_45 (fun z45 hz451 hz452 => ?_)
          refine zs_puti (r := 1084) (pc := 46) C dX9_remember_46 w_X9_382 f_10_84 rfl (r_1084 0) (by omega) ?_
          refine zs_aload_n (pc := 49) C dX9_remember_49 rfl ?_
          refine zs_aload_n (pc := 50) C dX9_remember_50 rfl ?_
          refine zs_getf (pc := 51) C dX9_remember_51 w_X9_163 f_10_85 (by decide) ?_
          refine zs_bipush (pc := 54) C dX9_remember_54 (by decide) (by decide) ?_
          refine zs_aload_n (pc := 56) C dX9_remember_56 rfl ?_
          refine zs_geti (r := 1084) (pc := 57) C dX9_remember_57 w_X9_382 f_10_84 rfl (r_1084 0) (fun v57 e57 l57 u57 => ?_)
          try simp only [zuI_1, zuI_2, zuJ_1, zuJ_2, zuJ_3, zuP_1, zuP_2, zuP_3, zuC_1, zuC_2, reduceIte, Nat.reduceEqDiff, false_and, and_false, true_and, and_true, and_self, or_true, true_or, or_false, false_or] at e57
          first | refine zs_imul (pc := 60) C dX9_remember_60 (by omega) ?_ | refine zs_imulF (pc := 60) C dX9_remember_60 (fun z60 hz601 hz602 => ?_)
          refine zVv2 (pc := 61) C dX9_remember_61 v_X9_547 (c_X9_putW5 hX (by omega)) (by decide) (by decide) ⟨Nat.zero_le _, Nat.zero_le _⟩ (Nat.le_of_ble_eq_true rfl) (fun G61 hp61 => ?_)
          obtain ⟨hz61, hq61⟩ := hp61
          try simp only [zuI_1, zuI_2, zuJ_1, zuJ_2, zuJ_3, zuP_1, zuP_2, zuP_3, zuC_1, zuC_2, reduceIte, Nat.reduceEqDiff, false_and, and_false, true_and, and_true, and_self, or_true, true_or, or_false, false_or] at hq61
          have t1084 := zsm_at hz61 1084 w 0 (by decide)
          try simp only [zuI_1, zuI_2, zuJ_1, zuJ_2, zuJ_3, zuP_1, zuP_2, zuP_3, zuC_1, zuC_2, reduceIte, Nat.reduceEqDiff, false_and, and_false, true_and, and_true, and_self, or_true, true_or, or_false, false_or] at t1084
          obtain ⟨p61, o61, j61⟩ := hq61
          have hEnd : (n < 20 → bR Γ w Ws (n + 1) G61) ∧ (¬ n < 20 → bR Γ w (fun i => Ws (i + 1)) 20 G61) := by
            first
            | exact ⟨fun _ => bR_put (n := n) (by omega) rfl (by omega) hBe1 hQ hR p61 o61, fun z => absurd hn20 z⟩
            | exact ⟨fun z => absurd z (by omega), fun _ => bR_put (n := 19) (by omega) rfl (by decide) (bR_z (rs := [1084]) (zsm_I (by simp) zsm_rf) (by decide)  hBe2) hQ20 (by repeat (first | assumption | refine rW_sm (by assumption) (by decide) ?_ | refine rW_I (by decide) ?_ | refine rW_J ?_)) p61 o61⟩
          have hJe : G61.2.1 = G.2.1 := by first | exact j61 | exact j61.trans h11_4
          refine zs_aload_n (pc := 64) C dX9_remember_64 rfl ?_
          refine zs_dupa (pc := 65) C dX9_remember_65 ?_
          refine zs_geti (r := 1084) (pc := 66) C dX9_remember_66 w_X9_382 f_10_84 rfl (r_1084 0) (fun v66 e66 l66 u66 => ?_)
          refine zs_iconst (pc := 69) C dX9_remember_69 (by decide) ?_
          first | refine zs_iadd (pc := 70) C dX9_remember_70 (by omega) ?_ | refine zs_iaddF (pc := 70) C dX9_remember_70 (fun z70 hz701 hz702 => ?_)
          refine zs_puti (r := 1084) (pc := 71) C dX9_remember_71 w_X9_382 f_10_84 rfl (r_1084 0) (by omega) ?_
          exact zs_vret (pc := 74) C hr hlk dX9_remember_74 ⟨by repeat (first | exact zsm_rf | assumption | refine zsm_C (by decide) ?_ | refine zsm_I (by decide) ?_ | refine zsm_J ?_ | refine zsm_c (by assumption) (by decide) ?_), ⟨fun z => ⟨bR_z (rs := [1084]) (zsm_I (by simp) zsm_rf) (by decide)  (hEnd.1 z), (by simp only [zuI_1, zuI_2, zuJ_1, zuJ_2, zuJ_3, zuP_1, zuP_2, zuP_3, zuC_1, zuC_2, reduceIte, Nat.reduceEqDiff, false_and, and_false, true_and, and_true, and_self, or_true, true_or, or_false, false_or]; omega)⟩, fun z => ⟨bR_z (rs := [1084]) (zsm_I (by simp) zsm_rf) (by decide)  (hEnd.2 z), (by simp only [zuI_1, zuI_2, zuJ_1, zuJ_2, zuJ_3, zuP_1, zuP_2, zuP_3, zuC_1, zuC_2, reduceIte, Nat.reduceEqDiff, false_and, and_false, true_and, and_true, and_self, or_true, true_or, or_false, false_or]; omega)⟩, hJe⟩⟩
        · skip
          refine zs_aload_n (pc := 18) C dX9_remember_18 rfl ?_
          refine zs_getf (pc := 19) C dX9_remember_19 w_X9_163 f_10_85 (by decide) ?_
          refine zs_iload_n (pc := 22) C dX9_remember_22 rfl ?_
          refine zs_aload_n (pc := 23) C dX9_remember_23 rfl ?_
          refine zs_getf (pc := 24) C dX9_remember_24 w_X9_163 f_10_85 (by decide) ?_
          refine zs_iload_n (pc := 27) C dX9_remember_27 rfl ?_
          refine zs_bipush (pc := 28) C dX9_remember_28 (by decide) (by decide) ?_
          first | refine zs_iadd (pc := 30) C dX9_remember_30 (by omega) ?_ | refine zs_iaddF (pc := 30) C dX9_remember_30 (fun z30 hz301 hz302 => ?_)
          refine zs_iald (r := 2105) (pc := 31) C dX9_remember_31 a_105 (by decide) (by omega) rfl (show zrg 2105 (x1 + 127).toNat = ((zrg 2105 (x1 + 127).toNat).1, (zrg 2105 (x1 + 127).toNat).2) from rfl) (fun v31 e31 l31 u31 => ?_)
          have w31 := e31
          rw [rg5_sh (by omega)] at l31 u31
          refine zs_iast (r := 2105) (pc := 32) C dX9_remember_32 a_105 (by decide) (by omega) rfl (show zrg 2105 (x1).toNat = ((zrg 2105 (x1).toNat).1, (zrg 2105 (x1).toNat).2) from rfl) (by omega) ?_
          first | refine zs_iinc (pc := 33) C dX9_remember_33 rfl (by decide) (by omega) ?_ | refine zs_iincF (pc := 33) C dX9_remember_33 rfl (by decide) (fun z33 hz331 hz332 => ?_)
          dsimp only [zset, zclr, znone]
          refine zs_goto (tgt := 11) (pc := 36) C dX9_remember_36 (by decide) ?_
          exact zs_wk (ih11 _ _ (by omega) (by repeat (first | exact zsm_rf | assumption | refine zsm_C (by decide) ?_ | refine zsm_I (by decide) ?_ | refine zsm_J ?_ | refine zsm_c (by assumption) (by decide) ?_)) (fun j hj => by simp only [zuI_1, true_and]; by_cases q : j = x1.toNat; (rw [if_pos q, w31, h11_3 _ (by omega), show (x1 + 127).toNat = j + 127 by omega]); (rw [if_neg q]; exact h11_2 j (by omega))) (fun j hj => by simp only [zuI_1, true_and]; rw [if_neg (by omega)]; exact h11_3 j (by omega)) h11_4 (by first | omega | (simp only [zuI_1, zuI_2, zuJ_1, zuJ_2, zuJ_3, zuP_1, zuP_2, zuP_3, zuC_1, zuC_2, reduceIte, Nat.reduceEqDiff, false_and, and_false, true_and, and_true, and_self, or_true, true_or, or_false, false_or]; omega))) (zwk_s rfl (zwk_s rfl zwk_0))
    exact zs_wk (L11 _ _ _ (by omega) zsm_rf (fun j hj => by omega) (fun j hj => rfl) rfl (Nat.lt_succ_self _)) (zwk_s rfl (zwk_s rfl zwk_0))

set_option maxHeartbeats 4000000 in
set_option maxRecDepth 100000 in
theorem c_X9_undoW {l : Launch} {Γ : zΓ} {G : zH} {w : Nat} {n : Int} {Ws : Nat → aS} {us : Nat → Int} {A W : aS}  (hX : zXs Γ) (hn : G.1 1084 w 0 = n) (hB : bR Γ w Ws n G) (hU : wUI A Ws us n W) (hR : rW Γ w 0 W G) (hW : WI A W) (hS : rS Γ w W G)  : zMet l Γ yX9_undo cX9_undo 1 (some .int) 1 [zr 10 w] G (zpi (fun x G' => zsm [2081, 2082, 2083, 2084, 2085, 2086, 2087, 2088, 2089, 2090, 2094, 1002, 1084] G G' ∧ ((n = 0 → x = -1 ∧ rW Γ w 0 W G' ∧ rS Γ w W G' ∧ bR Γ w Ws 0 G' ∧ G'.1 1084 w 0 = 0) ∧ (n ≠ 0 → x = n - 1 ∧ rW Γ w 0 (wUndo W (us (n - 1).toNat)) G' ∧ rS Γ w (wUndo W (us (n - 1).toNat)) G' ∧ bR Γ w Ws (n - 1) G' ∧ G'.1 1084 w 0 = n - 1) ∧ G'.2.1 = G.2.1))) := by
  refine zMet_of RX9 hX (by decide) rfl (Nat.le_of_ble_eq_true rfl) ?_
  intro p e s m args below meth c C hr hlk
  show Z p l e (zrm 1) s m args below meth c Γ 1 0 0 (MQ below (zQc Γ (zpi (fun x G' => zsm [2081, 2082, 2083, 2084, 2085, 2086, 2087, 2088, 2089, 2090, 2094, 1002, 1084] G G' ∧ ((n = 0 → x = -1 ∧ rW Γ w 0 W G' ∧ rS Γ w W G' ∧ bR Γ w Ws 0 G' ∧ G'.1 1084 w 0 = 0) ∧ (n ≠ 0 → x = n - 1 ∧ rW Γ w 0 (wUndo W (us (n - 1).toNat)) G' ∧ rS Γ w (wUndo W (us (n - 1).toNat)) G' ∧ bR Γ w Ws (n - 1) G' ∧ G'.1 1084 w 0 = n - 1) ∧ G'.2.1 = G.2.1)))) args s 0 0 (zA Γ)) 0 [some (zr 10 w)] [] G
  have hn2 := hU.1
  refine zs_aload_n (pc := 0) C dX9_undo_0 rfl ?_
  refine zs_iconst (pc := 1) C dX9_undo_1 (by decide) ?_
  refine zs_puti (r := 1002) (pc := 2) C dX9_undo_2 w_X9_178 f_10_2 rfl (r_1002 0) (by omega) ?_
  refine zs_aload_n (pc := 5) C dX9_undo_5 rfl ?_
  refine zs_geti (r := 1084) (pc := 6) C dX9_undo_6 w_X9_382 f_10_84 rfl (r_1084 0) (fun v6 e6 l6 u6 => ?_)
  try simp only [zuI_1, zuI_2, zuJ_1, zuJ_2, zuJ_3, zuP_1, zuP_2, zuP_3, zuC_1, zuC_2, reduceIte, Nat.reduceEqDiff, false_and, and_false, true_and, and_true, and_self, or_true, true_or, or_false, false_or] at e6
  refine zs_if_ne (tgt := 14) (pc := 9) C dX9_undo_9 (by decide) (fun h9 => ?_) (fun h9 => ?_)
  · skip
    refine zs_aload_n (pc := 14) C dX9_undo_14 rfl ?_
    refine zs_dupa (pc := 15) C dX9_undo_15 ?_
    refine zs_geti (r := 1084) (pc := 16) C dX9_undo_16 w_X9_382 f_10_84 rfl (r_1084 0) (fun v16 e16 l16 u16 => ?_)
    try simp only [zuI_1, zuI_2, zuJ_1, zuJ_2, zuJ_3, zuP_1, zuP_2, zuP_3, zuC_1, zuC_2, reduceIte, Nat.reduceEqDiff, false_and, and_false, true_and, and_true, and_self, or_true, true_or, or_false, false_or] at e16
    refine zs_iconst (pc := 19) C dX9_undo_19 (by decide) ?_
    first | refine zs_isub (pc := 20) C dX9_undo_20 (by omega) ?_ | refine zs_isubF (pc := 20) C dX9_undo_20 (fun z20 hz201 hz202 => ?_)
    refine zs_puti (r := 1084) (pc := 21) C dX9_undo_21 w_X9_382 f_10_84 rfl (r_1084 0) (by omega) ?_
    refine zs_aload_n (pc := 24) C dX9_undo_24 rfl ?_
    refine zs_aload_n (pc := 25) C dX9_undo_25 rfl ?_
    refine zs_getf (pc := 26) C dX9_undo_26 w_X9_163 f_10_85 (by decide) ?_
    refine zs_bipush (pc := 29) C dX9_undo_29 (by decide) (by decide) ?_
    refine zs_aload_n (pc := 31) C dX9_undo_31 rfl ?_
    refine zs_geti (r := 1084) (pc := 32) C dX9_undo_32 w_X9_382 f_10_84 rfl (r_1084 0) (fun v32 e32 l32 u32 => ?_)
    try simp only [zuI_1, zuI_2, zuJ_1, zuJ_2, zuJ_3, zuP_1, zuP_2, zuP_3, zuC_1, zuC_2, reduceIte, Nat.reduceEqDiff, false_and, and_false, true_and, and_true, and_self, or_true, true_or, or_false, false_or] at e32
    first | refine zs_imul (pc := 35) C dX9_undo_35 (by omega) ?_ | refine zs_imulF (pc := 35) C dX9_undo_35 (fun z35 hz351 hz352 => ?_)
    refine zVv2 (pc := 36) C dX9_undo_36 v_X9_550 (c_X9_takeW5 hX (by omega)) (by decide) (by decide) ⟨Nat.zero_le _, Nat.zero_le _⟩ (Nat.le_of_ble_eq_true rfl) (fun G36 hp36 => ?_)
    obtain ⟨hz36, hq36⟩ := hp36
    try simp only [zuI_1, zuI_2, zuJ_1, zuJ_2, zuJ_3, zuP_1, zuP_2, zuP_3, zuC_1, zuC_2, reduceIte, Nat.reduceEqDiff, false_and, and_false, true_and, and_true, and_self, or_true, true_or, or_false, false_or] at hq36
    have t84 := zsm_at hz36 1084 w 0 (by decide)
    try simp only [zuI_1, zuI_2, zuJ_1, zuJ_2, zuJ_3, zuP_1, zuP_2, zuP_3, zuC_1, zuC_2, reduceIte, Nat.reduceEqDiff, false_and, and_false, true_and, and_true, and_self, or_true, true_or, or_false, false_or] at t84
    obtain ⟨tA, tB, tK, tS, j36⟩ := hq36
    have hpo := wUI_pop hU (by omega)
    obtain ⟨k0, k22, k21, kf⟩ := wUndo_k hpo.2
    have hv32 : v32 = n - 1 := by omega
    have hQp : wQ (wUndo W (us (n - 1).toNat)) (Ws (n - 1).toNat) := hpo.1.2.1
    have hF : rF (tF 2105 (Γ.2.1 w 85) (127 * v32) G) (wUndo W (us (n - 1).toNat)) := by
      have q := hB (n - 1).toNat (by omega)
      rw [show (((n - 1).toNat : Nat) : Int) = v32 by omega] at q
      exact rF_Q (wQ_s hQp) q
    have h60 : (wUndo W (us (n - 1).toNat)) 0 0 ≤ 60 := by have := hW.1; omega
    have hR36 : rW Γ w 0 (wUndo W (us (n - 1).toNat)) G36 := rW_tk h60 (tF_cg (fun m _ => by simp only [zuI_1, zuI_2, zuJ_1, zuJ_2, zuJ_3, zuP_1, zuP_2, zuP_3, zuC_1, zuC_2, reduceIte, Nat.reduceEqDiff, false_and, and_false, true_and, and_true, and_self, or_true, true_or, or_false, false_or]) hF) tA tB tK tS (fun k hk => by
      have q := (hR.2.2.2 k (by omega)).1
      rw [show (60 * (0 : Int) + k).toNat = k by omega] at q
      rw [kf 3 k (by decide) (by decide) (by decide) hk, hz36.1 2093 (by decide)]
      exact q)
    have hS36 : rS Γ w (wUndo W (us (n - 1).toNat)) G36 := rS_undo k0 k22 kf (rS_sm (rs := [2081, 2082, 2083, 2084, 2085, 2086, 2087, 2088, 2089, 2090, 2094, 1002, 1084]) (by repeat (first | exact zsm_rf | assumption | refine zsm_C (by decide) ?_ | refine zsm_I (by decide) ?_ | refine zsm_J ?_ | refine zsm_c (by assumption) (by decide) ?_)) (by decide) hS)
    refine zs_aload_n (pc := 39) C dX9_undo_39 rfl ?_
    refine zs_geti (r := 1084) (pc := 40) C dX9_undo_40 w_X9_382 f_10_84 rfl (r_1084 0) (fun v40 e40 l40 u40 => ?_)
    exact zs_iret (pc := 43) C hr hlk dX9_undo_43 (by
        have hn0 : n ≠ 0 := by omega
        exact ⟨by repeat (first | exact zsm_rf | assumption | refine zsm_C (by decide) ?_ | refine zsm_I (by decide) ?_ | refine zsm_J ?_ | refine zsm_c (by assumption) (by decide) ?_), ⟨fun z => absurd z hn0, fun _ => ⟨by omega, hR36, hS36, bR_z hz36 (by decide) (fun u hu => tF_cg (fun m _ => by simp only [zuI_1, zuI_2, zuJ_1, zuJ_2, zuJ_3, zuP_1, zuP_2, zuP_3, zuC_1, zuC_2, reduceIte, Nat.reduceEqDiff, false_and, and_false, true_and, and_true, and_self, or_true, true_or, or_false, false_or]) (hB u (by omega))), by omega⟩, j36⟩⟩)
  · skip
    refine zs_iconst (pc := 12) C dX9_undo_12 (by decide) ?_
    exact zs_iret (pc := 13) C hr hlk dX9_undo_13 (by
        have hn0 : n = 0 := by omega
        exact ⟨by repeat (first | exact zsm_rf | assumption | refine zsm_C (by decide) ?_ | refine zsm_I (by decide) ?_ | refine zsm_J ?_ | refine zsm_c (by assumption) (by decide) ?_), ⟨fun _ => ⟨rfl, (by repeat (first | assumption | refine rW_sm (by assumption) (by decide) ?_ | refine rW_I (by decide) ?_ | refine rW_J ?_)), rS_sm (rs := [1002]) (zsm_I (by simp) zsm_rf) (by decide) hS, (fun u hu => absurd hu (by omega)), by simp only [zuI_1, zuI_2, zuJ_1, zuJ_2, zuJ_3, zuP_1, zuP_2, zuP_3, zuC_1, zuC_2, reduceIte, Nat.reduceEqDiff, false_and, and_false, true_and, and_true, and_self, or_true, true_or, or_false, false_or]; omega⟩, fun z => absurd hn0 z, rfl⟩⟩)
