set_option maxHeartbeats 4000000 in
set_option maxRecDepth 100000 in
theorem c_X9_onceLineY {l : Launch} {Γ : zΓ} {G : zH} {w : Nat} {b : Nat → Int} {n : Int} {A : aS} {k : Int}  (hX : zXs Γ) (hR : gR b n Γ w A G) (hk0 : tK b n A ≠ 0) (hk : 0 ≤ k ∧ k ≤ 3) (hwt : tW b n A = 4 + k) : zMet l Γ yX9_onceLine cX9_onceLine 3 (some .boolean) 3 [zr 10 w, zi k] G (zpi (fun x G' => zsm [1007, 1008, 1009, 1010, 1004, 1005, 1011, 2060, 2059] G G' ∧ LJr G G' ∧ ((x = 0 ∨ x = 1) ∧ (x = 1 → gR b n Γ w (sOL b n k A) G' ∧ G.1 1010 w 0 < G'.1 1010 w 0) ∧ (x = 0 → FT w (sOL b n k A) G')))) := by
  obtain ⟨hG, hF, hD⟩ := hR
  have hO9 := hD.2.2.2.2.1
  have h0 := hF.1
  have g10 := hG.2.2.2.2.1
  have hob := (hO9.2 k.toNat (by omega)).1
  have hbb := oH_b hk
  have ohc := oH_c hk
  have hwk : (4 : Int) + (k.toNat : Nat) = tW b n A := by omega
  refine zMet_of RX9 hX (by decide) rfl (Nat.le_of_ble_eq_true rfl) ?_
  intro p e s m args below meth c C hr hlk
  show Z p l e (zrm 3) s m args below meth c Γ 3 0 0 (MQ below (zQc Γ (zpi (fun x G' => zsm [1007, 1008, 1009, 1010, 1004, 1005, 1011, 2060, 2059] G G' ∧ LJr G G' ∧ ((x = 0 ∨ x = 1) ∧ (x = 1 → gR b n Γ w (sOL b n k A) G' ∧ G.1 1010 w 0 < G'.1 1010 w 0) ∧ (x = 0 → FT w (sOL b n k A) G'))))) args s 0 0 (zA Γ)) 0 [some (zr 10 w), some (zi k), none] [] G
  refine zs_loc 1 rfl (fun ha1 hb1 => ?_)
  refine zs_aload_n (pc := 0) C dX9_onceLine_0 rfl ?_
  refine zs_getf (pc := 1) C dX9_onceLine_1 w_X9_23 f_10_23 (by decide) ?_
  refine zs_iload_n (pc := 4) C dX9_onceLine_4 rfl ?_
  refine zs_zald (r := 2060) (pc := 5) C dX9_onceLine_5 a_60 (by decide) (by omega) rfl (r_2060 _) (fun v5 e5 l5 u5 => ?_)
  refine zs_if_eq (tgt := 15) (pc := 6) C dX9_onceLine_6 (by decide) (fun h6 => ?_) (fun h6 => ?_)
  · skip
    have ht9 : ¬ band (A 3 0) (bshl 1 (tW b n A)) ≠ 0 := by
      intro q
      unfold ob at hob
      rw [hwk, if_pos q] at hob
      omega
    have hS9 : sOnce b n (oLo k) (oHi k) A = sNum b n (oLo k) (oHi k) (sOnB b n A) := if_neg ht9
    have hV9 : sOnceV b n (oLo k) (oHi k) A = sNumV b n (oLo k) (oHi k) (sOnB b n A) := if_neg ht9
    have hB0 : (sOnB b n A) 1 0 = 0 := by unfold sOnB; rw [sNext_f (by decide), up_f (by decide)]; exact h0
    refine zs_aload_n (pc := 15) C dX9_onceLine_15 rfl ?_
    refine zs_getf (pc := 16) C dX9_onceLine_16 w_X9_23 f_10_23 (by decide) ?_
    refine zs_iload_n (pc := 19) C dX9_onceLine_19 rfl ?_
    refine zs_iconst (pc := 20) C dX9_onceLine_20 (by decide) ?_
    refine zs_zast (r := 2060) (pc := 21) C dX9_onceLine_21 a_60 (by decide) (by omega) rfl (r_2060 _) (by omega) (by omega) ?_
    refine zs_aload_n (pc := 22) C dX9_onceLine_22 rfl ?_
    refine zVv0 (pc := 23) C dX9_onceLine_23 v_X9_230 (c_X9_tokenGY hX (by repeat (first | assumption | decide | apply gT_I | apply gT_sm))) (by decide) (by decide) ⟨Nat.zero_le _, Nat.zero_le _⟩ (Nat.le_of_ble_eq_true rfl) (fun G23 hp23 => ?_)
    obtain ⟨hz23, lo23, hq23⟩ := hp23
    try simp only [zuI_1, zuI_2, zuJ_1, zuJ_2, zuJ_3, zuP_1, zuP_2, zuP_3, zuC_1, zuC_2, reduceIte, Nat.reduceEqDiff, false_and, and_false, true_and, and_true, and_self, or_true, true_or, or_false, false_or] at hq23
    have hgB : gT b n Γ w (sOnB b n A) G23 := gT_A (A := sNext b n A) (sNext_00 (by rw [up_f (by decide)])) hq23
    refine zs_iload_n (pc := 26) C dX9_onceLine_26 rfl ?_
    have J71 : ∀ (x2 y2 : Int), (x2 = oHi k ∧ y2 = oLo k) → Z p l e (zrm 3) s m args below meth c Γ 3 0 0 (MQ below (zQc Γ (zpi (fun x G' => zsm [1007, 1008, 1009, 1010, 1004, 1005, 1011, 2060, 2059] G G' ∧ LJr G G' ∧ ((x = 0 ∨ x = 1) ∧ (x = 1 → gR b n Γ w (sOL b n k A) G' ∧ G.1 1010 w 0 < G'.1 1010 w 0) ∧ (x = 0 → FT w (sOL b n k A) G'))))) args s 0 0 (zA Γ)) 71 [some (zr 10 w), some (zi k), some (zi x2)] [zi y2, zr 10 w] G23 := by
      intro x2 y2 h71_0
      obtain ⟨rfl, rfl⟩ := h71_0
      have oh1 : k = 1 → oHi k = 99 := fun q => (ohc.2.1 q).2
      clear ohc
      refine zs_iload_n (pc := 71) C dX9_onceLine_71 rfl ?_
      skip
      refine zVi2 (pc := 72) C dX9_onceLine_72 v_X9_236 (c_X9_numberY hX hgB hB0 hbb) (by decide) (by decide) ⟨Nat.zero_le _, Nat.zero_le _⟩ (Nat.le_of_ble_eq_true rfl) (fun x72 G72 l72 u72 hp72 => ?_)
      obtain ⟨hz72, lo72, hq72⟩ := hp72
      refine zs_if_ne (tgt := 80) (pc := 75) C dX9_onceLine_75 (by decide) (fun h75 => ?_) (fun h75 => ?_)
      · skip
        have hoo := rs_2059 (4 + k).toNat
        refine zs_aload_n (pc := 80) C dX9_onceLine_80 rfl ?_
        refine zs_getf (pc := 81) C dX9_onceLine_81 w_X9_20 f_10_22 (by decide) ?_
        refine zs_iconst (pc := 84) C dX9_onceLine_84 (by decide) ?_
        refine zs_iload_n (pc := 85) C dX9_onceLine_85 rfl ?_
        first | refine zs_iadd (pc := 86) C dX9_onceLine_86 (by omega) ?_ | refine zs_iaddF (pc := 86) C dX9_onceLine_86 (fun z86 hz861 hz862 => ?_)
        refine zs_aload_n (pc := 87) C dX9_onceLine_87 rfl ?_
        refine zs_geti (r := 1011) (pc := 88) C dX9_onceLine_88 w_X9_227 f_10_11 rfl (r_1011 0) (fun v88 e88 l88 u88 => ?_)
        refine zs_iast (r := 2059) (pc := 91) C dX9_onceLine_91 a_59 (by decide) (by omega) rfl (show zrg 2059 (4 + k).toNat = ((zrg 2059 (4 + k).toNat).1, (zrg 2059 (4 + k).toNat).2) from rfl) (by omega) ?_
        have k72 := hq72.2.2 (by omega)
        have o72 := sNum_ok (b := b) (n := n) (lo := oLo k) (hi := oHi k) (A := sOnB b n A) hB0 k72.1 (by omega)
        have hSC : sOL b n k A = up (sNext b n (sOnB b n A)) (12 + k.toNat) 0 (tV b n (sOnB b n A)) := by unfold sOL; rw [hS9, hV9, o72.1, o72.2]
        have k72b := k72.2.2.2.2.2
        have f72 := k72.2.2.2.1
        have t23a := zsm_at hz23 1004 w 0 (by decide)
        have t23b := zsm_at hz23 1005 w 0 (by decide)
        try simp only [zuI_1, zuI_2, zuJ_1, zuJ_2, zuJ_3, zuP_1, zuP_2, zuP_3, zuC_1, zuC_2, reduceIte, Nat.reduceEqDiff, false_and, and_false, true_and, and_true, and_self, or_true, true_or, or_false, false_or] at t23a t23b
        have a1 := gT_adv hG hq23 hk0
        have a2 : G23.1 1010 w 0 ≤ G72.1 1010 w 0 := gT_mono hgB k72.2.2.2.2.1
        refine zs_heap (P := fun G9 => zsm [1007, 1008, 1009, 1010, 1004, 1005, 1011, 2060, 2059] G G9 ∧ LJr G G9 ∧ gR b n Γ w (sOL b n k A) G9 ∧ G.1 1010 w 0 < G9.1 1010 w 0) ⟨(by repeat (first | exact zsm_rf | assumption | refine zsm_C (by decide) ?_ | refine zsm_I (by decide) ?_ | refine zsm_J ?_ | refine zsm_c (by assumption) (by decide) ?_)), (by with_reducible repeat (first | exact LJr_rf | assumption | refine LJr_I (h := 0) (by decide) (Nat.zero_le _) ?_ | refine LJr_I (h := 3) (by decide) (by omega) ?_ | refine LJr_I (h := 4) (by decide) (by omega) ?_ | refine LJr_I (h := 5) (by decide) (by omega) ?_ | refine LJr_I (h := 7) (by decide) (by omega) ?_ | refine LJr_I (h := 20) (by decide) (by omega) ?_ | refine LJr_I (h := 64) (by decide) (by omega) ?_ | refine LJr_c (by assumption) ?_)), ?_, ?_⟩ (fun G9 hG9 => ?_)
        · refine gR_once (k := k) (v := tV b n (sOnB b n A)) (by repeat (first | exact zsm_rf | assumption | refine zsm_C (by decide) ?_ | refine zsm_I (by decide) ?_ | refine zsm_J ?_ | refine zsm_c (by assumption) (by decide) ?_)) ⟨hG, hF, hD⟩ (gT_A (A := sNext b n (sOnB b n A)) (by rw [hSC, up_f (by omega)]) (gT_I (by decide) k72.2.2.2.2.1)) hk ?_ (by rw [hSC, up_eq]) (fun f j q0 q3 q12 => ?_) (by first | omega | (simp only [zuI_1, zuI_2, zuJ_1, zuJ_2, zuJ_3, zuP_1, zuP_2, zuP_3, zuC_1, zuC_2, reduceIte, Nat.reduceEqDiff, false_and, and_false, true_and, and_true, and_self, or_true, true_or, or_false, false_or] <;> omega)) (by first | omega | (simp only [zuI_1, zuI_2, zuJ_1, zuJ_2, zuJ_3, zuP_1, zuP_2, zuP_3, zuC_1, zuC_2, reduceIte, Nat.reduceEqDiff, false_and, and_false, true_and, and_true, and_self, or_true, true_or, or_false, false_or] <;> omega)) (fun j => ?_) (fun j => ?_)
          · rw [hSC, up_f (by omega), sNext_f (by decide)]
            unfold sOnB
            rw [sNext_f (by decide), up_eq, show (4 : Int) + k = tW b n A by omega]
          · rw [hSC, up_f q12, sNext_f q0]
            unfold sOnB
            rw [sNext_f q0, up_f q3]
          · rw [zuI_nf (by decide), hz72.1 2060 (by decide), hz23.1 2060 (by decide)]
            simp only [zuI_1, zuI_2, zuJ_1, zuJ_2, zuJ_3, zuP_1, zuP_2, zuP_3, zuC_1, zuC_2, reduceIte, Nat.reduceEqDiff, false_and, and_false, true_and, and_true, and_self, or_true, true_or, or_false, false_or]
          · simp only [zuI_1, zuI_2, zuJ_1, zuJ_2, zuJ_3, zuP_1, zuP_2, zuP_3, zuC_1, zuC_2, reduceIte, Nat.reduceEqDiff, false_and, and_false, true_and, and_true, and_self, or_true, true_or, or_false, false_or]
            rw [hz72.1 2059 (by decide), hz23.1 2059 (by decide), zuI_nf (by decide), show v88 = tV b n (sOnB b n A) by omega]
        · first | omega | (simp only [zuI_1, zuI_2, zuJ_1, zuJ_2, zuJ_3, zuP_1, zuP_2, zuP_3, zuC_1, zuC_2, reduceIte, Nat.reduceEqDiff, false_and, and_false, true_and, and_true, and_self, or_true, true_or, or_false, false_or] <;> omega)
        obtain ⟨hh1, lwG9, hh2, hh3⟩ := hG9
        refine zs_iconst (pc := 92) C dX9_onceLine_92 (by decide) ?_
        exact zs_zret (pc := 93) C hr hlk dX9_onceLine_93 (by omega) ⟨hh1, (by with_reducible repeat (first | exact LJr_rf | assumption | refine LJr_I (h := 0) (by decide) (Nat.zero_le _) ?_ | refine LJr_I (h := 3) (by decide) (by omega) ?_ | refine LJr_I (h := 4) (by decide) (by omega) ?_ | refine LJr_I (h := 5) (by decide) (by omega) ?_ | refine LJr_I (h := 7) (by decide) (by omega) ?_ | refine LJr_I (h := 20) (by decide) (by omega) ?_ | refine LJr_I (h := 64) (by decide) (by omega) ?_ | refine LJr_c (by assumption) ?_)), ⟨by omega, fun _ => ⟨hh2, hh3⟩, fun q => by omega⟩⟩
      · skip
        refine zs_iconst (pc := 78) C dX9_onceLine_78 (by decide) ?_
        exact zs_zret (pc := 79) C hr hlk dX9_onceLine_79 (by omega) ⟨by repeat (first | exact zsm_rf | assumption | refine zsm_C (by decide) ?_ | refine zsm_I (by decide) ?_ | refine zsm_J ?_ | refine zsm_c (by assumption) (by decide) ?_), (by with_reducible repeat (first | exact LJr_rf | assumption | refine LJr_I (h := 0) (by decide) (Nat.zero_le _) ?_ | refine LJr_I (h := 3) (by decide) (by omega) ?_ | refine LJr_I (h := 4) (by decide) (by omega) ?_ | refine LJr_I (h := 5) (by decide) (by omega) ?_ | refine LJr_I (h := 7) (by decide) (by omega) ?_ | refine LJr_I (h := 20) (by decide) (by omega) ?_ | refine LJr_I (h := 64) (by decide) (by omega) ?_ | refine LJr_c (by assumption) ?_)), ⟨by omega, fun q => by omega, fun _ => (by unfold sOL; rw [hS9]; exact FT_up (by omega) (by omega) (hq72.2.1 (by omega)))⟩⟩
    refine zs_if_ne (tgt := 36) (pc := 27) C dX9_onceLine_27 (by decide) (fun h27 => ?_) (fun h27 => ?_)
    · skip
      refine zs_iload_n (pc := 36) C dX9_onceLine_36 rfl ?_
      refine zs_iconst (pc := 37) C dX9_onceLine_37 (by decide) ?_
      refine zs_icmp_ne (tgt := 46) (pc := 38) C dX9_onceLine_38 (by decide) (fun h38 => ?_) (fun h38 => ?_)
      · skip
        refine zs_iload_n (pc := 46) C dX9_onceLine_46 rfl ?_
        refine zs_iconst (pc := 47) C dX9_onceLine_47 (by decide) ?_
        refine zs_icmp_ne (tgt := 57) (pc := 48) C dX9_onceLine_48 (by decide) (fun h48 => ?_) (fun h48 => ?_)
        · skip
          refine zs_ldc (n := 99999) (pc := 57) C dX9_onceLine_57 q_X9_216 (by decide) (by decide) ?_
          refine zs_istore_n (pc := 59) C dX9_onceLine_59 (by decide) ?_
          dsimp only [zset, zclr, znone]
          refine zs_aload_n (pc := 60) C dX9_onceLine_60 rfl ?_
          refine zs_iload_n (pc := 61) C dX9_onceLine_61 rfl ?_
          refine zs_iconst (pc := 62) C dX9_onceLine_62 (by decide) ?_
          refine zs_icmp_ne (tgt := 70) (pc := 63) C dX9_onceLine_63 (by decide) (fun h63 => ?_) (fun h63 => ?_)
          · skip
            refine zs_iconst (pc := 70) C dX9_onceLine_70 (by decide) ?_
            exact zs_wk (J71 _ _ (by first | omega | (simp only [zuI_1, zuI_2, zuJ_1, zuJ_2, zuJ_3, zuP_1, zuP_2, zuP_3, zuC_1, zuC_2, reduceIte, Nat.reduceEqDiff, false_and, and_false, true_and, and_true, and_self, or_true, true_or, or_false, false_or]; omega))) (zwk_s rfl (zwk_s rfl (zwk_s rfl zwk_0)))
          · skip
            refine zs_iconst (pc := 66) C dX9_onceLine_66 (by decide) ?_
            refine zs_goto (tgt := 71) (pc := 67) C dX9_onceLine_67 (by decide) ?_
            exact zs_wk (J71 _ _ (by first | omega | (simp only [zuI_1, zuI_2, zuJ_1, zuJ_2, zuJ_3, zuP_1, zuP_2, zuP_3, zuC_1, zuC_2, reduceIte, Nat.reduceEqDiff, false_and, and_false, true_and, and_true, and_self, or_true, true_or, or_false, false_or]; omega))) (zwk_s rfl (zwk_s rfl (zwk_s rfl zwk_0)))
        · skip
          refine zs_sipush (pc := 51) C dX9_onceLine_51 (by decide) (by decide) ?_
          refine zs_goto (tgt := 59) (pc := 54) C dX9_onceLine_54 (by decide) ?_
          refine zs_istore_n (pc := 59) C dX9_onceLine_59 (by decide) ?_
          dsimp only [zset, zclr, znone]
          refine zs_aload_n (pc := 60) C dX9_onceLine_60 rfl ?_
          refine zs_iload_n (pc := 61) C dX9_onceLine_61 rfl ?_
          refine zs_iconst (pc := 62) C dX9_onceLine_62 (by decide) ?_
          refine zs_icmp_ne (tgt := 70) (pc := 63) C dX9_onceLine_63 (by decide) (fun h63 => ?_) (fun h63 => ?_)
          · skip
            refine zs_iconst (pc := 70) C dX9_onceLine_70 (by decide) ?_
            exact zs_wk (J71 _ _ (by first | omega | (simp only [zuI_1, zuI_2, zuJ_1, zuJ_2, zuJ_3, zuP_1, zuP_2, zuP_3, zuC_1, zuC_2, reduceIte, Nat.reduceEqDiff, false_and, and_false, true_and, and_true, and_self, or_true, true_or, or_false, false_or]; omega))) (zwk_s rfl (zwk_s rfl (zwk_s rfl zwk_0)))
          · skip
            refine zs_iconst (pc := 66) C dX9_onceLine_66 (by decide) ?_
            refine zs_goto (tgt := 71) (pc := 67) C dX9_onceLine_67 (by decide) ?_
            exact zs_wk (J71 _ _ (by first | omega | (simp only [zuI_1, zuI_2, zuJ_1, zuJ_2, zuJ_3, zuP_1, zuP_2, zuP_3, zuC_1, zuC_2, reduceIte, Nat.reduceEqDiff, false_and, and_false, true_and, and_true, and_self, or_true, true_or, or_false, false_or]; omega))) (zwk_s rfl (zwk_s rfl (zwk_s rfl zwk_0)))
      · skip
        refine zs_bipush (pc := 41) C dX9_onceLine_41 (by decide) (by decide) ?_
        refine zs_goto (tgt := 59) (pc := 43) C dX9_onceLine_43 (by decide) ?_
        refine zs_istore_n (pc := 59) C dX9_onceLine_59 (by decide) ?_
        dsimp only [zset, zclr, znone]
        refine zs_aload_n (pc := 60) C dX9_onceLine_60 rfl ?_
        refine zs_iload_n (pc := 61) C dX9_onceLine_61 rfl ?_
        refine zs_iconst (pc := 62) C dX9_onceLine_62 (by decide) ?_
        refine zs_icmp_ne (tgt := 70) (pc := 63) C dX9_onceLine_63 (by decide) (fun h63 => ?_) (fun h63 => ?_)
        · skip
          refine zs_iconst (pc := 70) C dX9_onceLine_70 (by decide) ?_
          exact zs_wk (J71 _ _ (by first | omega | (simp only [zuI_1, zuI_2, zuJ_1, zuJ_2, zuJ_3, zuP_1, zuP_2, zuP_3, zuC_1, zuC_2, reduceIte, Nat.reduceEqDiff, false_and, and_false, true_and, and_true, and_self, or_true, true_or, or_false, false_or]; omega))) (zwk_s rfl (zwk_s rfl (zwk_s rfl zwk_0)))
        · skip
          refine zs_iconst (pc := 66) C dX9_onceLine_66 (by decide) ?_
          refine zs_goto (tgt := 71) (pc := 67) C dX9_onceLine_67 (by decide) ?_
          exact zs_wk (J71 _ _ (by first | omega | (simp only [zuI_1, zuI_2, zuJ_1, zuJ_2, zuJ_3, zuP_1, zuP_2, zuP_3, zuC_1, zuC_2, reduceIte, Nat.reduceEqDiff, false_and, and_false, true_and, and_true, and_self, or_true, true_or, or_false, false_or]; omega))) (zwk_s rfl (zwk_s rfl (zwk_s rfl zwk_0)))
    · skip
      refine zs_sipush (pc := 30) C dX9_onceLine_30 (by decide) (by decide) ?_
      refine zs_goto (tgt := 59) (pc := 33) C dX9_onceLine_33 (by decide) ?_
      refine zs_istore_n (pc := 59) C dX9_onceLine_59 (by decide) ?_
      dsimp only [zset, zclr, znone]
      refine zs_aload_n (pc := 60) C dX9_onceLine_60 rfl ?_
      refine zs_iload_n (pc := 61) C dX9_onceLine_61 rfl ?_
      refine zs_iconst (pc := 62) C dX9_onceLine_62 (by decide) ?_
      refine zs_icmp_ne (tgt := 70) (pc := 63) C dX9_onceLine_63 (by decide) (fun h63 => ?_) (fun h63 => ?_)
      · skip
        refine zs_iconst (pc := 70) C dX9_onceLine_70 (by decide) ?_
        exact zs_wk (J71 _ _ (by first | omega | (simp only [zuI_1, zuI_2, zuJ_1, zuJ_2, zuJ_3, zuP_1, zuP_2, zuP_3, zuC_1, zuC_2, reduceIte, Nat.reduceEqDiff, false_and, and_false, true_and, and_true, and_self, or_true, true_or, or_false, false_or]; omega))) (zwk_s rfl (zwk_s rfl (zwk_s rfl zwk_0)))
      · skip
        refine zs_iconst (pc := 66) C dX9_onceLine_66 (by decide) ?_
        refine zs_goto (tgt := 71) (pc := 67) C dX9_onceLine_67 (by decide) ?_
        exact zs_wk (J71 _ _ (by first | omega | (simp only [zuI_1, zuI_2, zuJ_1, zuJ_2, zuJ_3, zuP_1, zuP_2, zuP_3, zuC_1, zuC_2, reduceIte, Nat.reduceEqDiff, false_and, and_false, true_and, and_true, and_self, or_true, true_or, or_false, false_or]; omega))) (zwk_s rfl (zwk_s rfl (zwk_s rfl zwk_0)))
  · skip
    have ht9 : band (A 3 0) (bshl 1 (tW b n A)) ≠ 0 := by
      intro q
      unfold ob at hob
      rw [hwk, if_neg (fun q2 => q2 q)] at hob
      omega
    have hS9 : sOnce b n (oLo k) (oHi k) A = sFail b n 3 A := if_pos ht9
    refine zs_aload_n (pc := 9) C dX9_onceLine_9 rfl ?_
    refine zs_iconst (pc := 10) C dX9_onceLine_10 (by decide) ?_
    refine zVi1 (pc := 11) C dX9_onceLine_11 v_X9_220 (c_X9_wrongY hX ) (by decide) (by decide) ⟨Nat.zero_le _, Nat.zero_le _⟩ (Nat.le_of_ble_eq_true rfl) (fun x11 G11 l11 u11 hp11 => ?_)
    obtain ⟨hz11, lo11, hq11⟩ := hp11
    exact zs_zret (pc := 14) C hr hlk dX9_onceLine_14 (by omega) ⟨by repeat (first | exact zsm_rf | assumption | refine zsm_C (by decide) ?_ | refine zsm_I (by decide) ?_ | refine zsm_J ?_ | refine zsm_c (by assumption) (by decide) ?_), (by with_reducible repeat (first | exact LJr_rf | assumption | refine LJr_I (h := 0) (by decide) (Nat.zero_le _) ?_ | refine LJr_I (h := 3) (by decide) (by omega) ?_ | refine LJr_I (h := 4) (by decide) (by omega) ?_ | refine LJr_I (h := 5) (by decide) (by omega) ?_ | refine LJr_I (h := 7) (by decide) (by omega) ?_ | refine LJr_I (h := 20) (by decide) (by omega) ?_ | refine LJr_I (h := 64) (by decide) (by omega) ?_ | refine LJr_c (by assumption) ?_)), ⟨by omega, fun q => by omega, fun _ => (by unfold sOL; rw [hS9]; exact FT_up (by omega) (by omega) (FT_fail h0 (by decide) hq11.2.1 (hq11.2.2.trans g10)))⟩⟩
