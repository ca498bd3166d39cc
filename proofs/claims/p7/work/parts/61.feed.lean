/-- what comes behind the tape -/
def ff (a b c d e k : Int) : Int := if k < 4 then byt a (24 - 8 * k) else if k < 8 then byt b (24 - 8 * (k - 4)) else if k < 12 then byt c (24 - 8 * (k - 8)) else if k < 16 then byt d (24 - 8 * (k - 12)) else byt e (24 - 8 * (k - 16))
theorem fill_step {f g h : Nat → Int} {T M v : Int} {n : Nat} (hinv : ∀ i : Nat, f i = if T ≤ (i : Int) ∧ (i : Int) < M then h i else g i) (hn : (n : Int) = M) (hT : T ≤ M) (hv : v = h n) : ∀ i : Nat, (if i = n then v else f i) = if T ≤ (i : Int) ∧ (i : Int) < M + 1 then h i else g i := by
  intro i
  by_cases hi : i = n
  · subst hi
    rw [if_pos rfl, if_pos ⟨by omega, by omega⟩]
    exact hv
  · rw [if_neg hi, hinv i]
    by_cases h1 : T ≤ (i : Int) ∧ (i : Int) < M
    · rw [if_pos h1, if_pos ⟨h1.1, by omega⟩]
    · rw [if_neg h1, if_neg (by omega)]

set_option maxHeartbeats 4000000 in
set_option maxRecDepth 100000 in
theorem c_X9_feedF {l : Launch} {Γ : zΓ} {G : zH} {w : Nat} {a1 a2 a3 a4 a5 : Int} (hX : zXs Γ)  : zMet l Γ yX9_feed cX9_feed 8 (some .int) 0 [zr 10 w, zi a1, zi a2, zi a3, zi a4, zi a5] G (zpi (fun x G' => zsm [1001, 1002, 2057] G G' ∧ ((G.1 1001 w 0 + 20 > 700 → x = -1 ∧ G'.1 1001 w 0 = G.1 1001 w 0 ∧ ∀ i : Nat, G'.1 2057 (Γ.2.1 w 0) i = G.1 2057 (Γ.2.1 w 0) i) ∧ (G.1 1001 w 0 + 20 ≤ 700 → x = G.1 1001 w 0 + 20 ∧ G'.1 1001 w 0 = G.1 1001 w 0 + 20 ∧ ∀ i : Nat, G'.1 2057 (Γ.2.1 w 0) i = if G.1 1001 w 0 ≤ (i : Int) ∧ (i : Int) < G.1 1001 w 0 + 20 then ff a1 a2 a3 a4 a5 ((i : Int) - G.1 1001 w 0) else G.1 2057 (Γ.2.1 w 0) i)))) := by
  refine zMet_of RX9 hX (by decide) rfl (Nat.le_of_ble_eq_true rfl) ?_
  intro p e s m args below meth c C hr hlk
  show Z p l e (zrm 0) s m args below meth c Γ 8 0 0 (MQ below (zQc Γ (zpi (fun x G' => zsm [1001, 1002, 2057] G G' ∧ ((G.1 1001 w 0 + 20 > 700 → x = -1 ∧ G'.1 1001 w 0 = G.1 1001 w 0 ∧ ∀ i : Nat, G'.1 2057 (Γ.2.1 w 0) i = G.1 2057 (Γ.2.1 w 0) i) ∧ (G.1 1001 w 0 + 20 ≤ 700 → x = G.1 1001 w 0 + 20 ∧ G'.1 1001 w 0 = G.1 1001 w 0 + 20 ∧ ∀ i : Nat, G'.1 2057 (Γ.2.1 w 0) i = if G.1 1001 w 0 ≤ (i : Int) ∧ (i : Int) < G.1 1001 w 0 + 20 then ff a1 a2 a3 a4 a5 ((i : Int) - G.1 1001 w 0) else G.1 2057 (Γ.2.1 w 0) i))))) args s 0 0 (zA Γ)) 0 [some (zr 10 w), some (zi a1), some (zi a2), some (zi a3), some (zi a4), some (zi a5), none, none] [] G
  refine zs_loc 1 rfl (fun ha1 hb1 => ?_)
  refine zs_loc 2 rfl (fun ha2 hb2 => ?_)
  refine zs_loc 3 rfl (fun ha3 hb3 => ?_)
  refine zs_loc 4 rfl (fun ha4 hb4 => ?_)
  refine zs_loc 5 rfl (fun ha5 hb5 => ?_)
  refine zs_aload_n (pc := 0) C dX9_feed_0 rfl ?_
  refine zs_iconst (pc := 1) C dX9_feed_1 (by decide) ?_
  refine zs_puti (r := 1002) (pc := 2) C dX9_feed_2 w_X9_178 f_10_2 rfl (r_1002 0) (by omega) ?_
  refine zs_aload_n (pc := 5) C dX9_feed_5 rfl ?_
  refine zs_geti (r := 1001) (pc := 6) C dX9_feed_6 w_X9_181 f_10_1 rfl (r_1001 0) (fun v6 e6 l6 u6 => ?_)
  try simp only [zuI_1, zuI_2, zuJ_1, zuJ_2, zuJ_3, zuP_1, zuP_2, zuP_3, zuC_1, zuC_2, reduceIte, Nat.reduceEqDiff, false_and, and_false, true_and, and_true, and_self, or_true, true_or, or_false, false_or] at e6
  refine zs_bipush (pc := 9) C dX9_feed_9 (by decide) (by decide) ?_
  first | refine zs_iadd (pc := 11) C dX9_feed_11 (by omega) ?_ | refine zs_iaddF (pc := 11) C dX9_feed_11 (fun z11 hz111 hz112 => ?_)
  refine zs_sipush (pc := 12) C dX9_feed_12 (by decide) (by decide) ?_
  refine zs_icmp_le (tgt := 20) (pc := 15) C dX9_feed_15 (by decide) (fun h15 => ?_) (fun h15 => ?_)
  · skip
    refine zs_iconst (pc := 20) C dX9_feed_20 (by decide) ?_
    refine zs_istore (pc := 21) C dX9_feed_21 (by decide) ?_
    dsimp only [zset, zclr, znone]
    have L23 : ∀ (nn : Nat) (x6 : Int) (G1 : zH), (0 ≤ x6 ∧ x6 ≤ 20) → (zsm [1002, 2057] G G1) → (∀ i : Nat, G1.1 2057 (Γ.2.1 w 0) i = if G.1 1001 w 0 ≤ (i : Int) ∧ (i : Int) < G.1 1001 w 0 + x6 then ff a1 a2 a3 a4 a5 ((i : Int) - G.1 1001 w 0) else G.1 2057 (Γ.2.1 w 0) i) → (20 - x6).toNat < nn → Z p l e (zrm 0) s m args below meth c Γ 8 0 0 (MQ below (zQc Γ (zpi (fun x G' => zsm [1001, 1002, 2057] G G' ∧ ((G.1 1001 w 0 + 20 > 700 → x = -1 ∧ G'.1 1001 w 0 = G.1 1001 w 0 ∧ ∀ i : Nat, G'.1 2057 (Γ.2.1 w 0) i = G.1 2057 (Γ.2.1 w 0) i) ∧ (G.1 1001 w 0 + 20 ≤ 700 → x = G.1 1001 w 0 + 20 ∧ G'.1 1001 w 0 = G.1 1001 w 0 + 20 ∧ ∀ i : Nat, G'.1 2057 (Γ.2.1 w 0) i = if G.1 1001 w 0 ≤ (i : Int) ∧ (i : Int) < G.1 1001 w 0 + 20 then ff a1 a2 a3 a4 a5 ((i : Int) - G.1 1001 w 0) else G.1 2057 (Γ.2.1 w 0) i))))) args s 0 0 (zA Γ)) 23 [some (zr 10 w), some (zi a1), some (zi a2), some (zi a3), some (zi a4), some (zi a5), some (zi x6), none] [] G1 := by
      intro nn
      induction nn with
      | zero => intro x6 G1 h23_0 h23_1 h23_2 hm; exact absurd hm (Nat.not_lt_zero _)
      | succ nn ih23 =>
        intro x6 G1 h23_0 h23_1 h23_2 hm23
        have hts := zsm_at h23_1 1001 w 0 (by decide)
        refine zs_iload (pc := 23) C dX9_feed_23 rfl ?_
        refine zs_bipush (pc := 25) C dX9_feed_25 (by decide) (by decide) ?_
        refine zs_icmp_ge (tgt := 113) (pc := 27) C dX9_feed_27 (by decide) (fun h27 => ?_) (fun h27 => ?_)
        · skip
          refine zs_aload_n (pc := 113) C dX9_feed_113 rfl ?_
          refine zs_dupa (pc := 114) C dX9_feed_114 ?_
          refine zs_geti (r := 1001) (pc := 115) C dX9_feed_115 w_X9_181 f_10_1 rfl (r_1001 0) (fun v115 e115 l115 u115 => ?_)
          refine zs_bipush (pc := 118) C dX9_feed_118 (by decide) (by decide) ?_
          first | refine zs_iadd (pc := 120) C dX9_feed_120 (by omega) ?_ | refine zs_iaddF (pc := 120) C dX9_feed_120 (fun z120 hz1201 hz1202 => ?_)
          refine zs_puti (r := 1001) (pc := 121) C dX9_feed_121 w_X9_181 f_10_1 rfl (r_1001 0) (by omega) ?_
          refine zs_aload_n (pc := 124) C dX9_feed_124 rfl ?_
          refine zs_geti (r := 1001) (pc := 125) C dX9_feed_125 w_X9_181 f_10_1 rfl (r_1001 0) (fun v125 e125 l125 u125 => ?_)
          try simp only [zuI_1, zuI_2, zuJ_1, zuJ_2, zuJ_3, zuP_1, zuP_2, zuP_3, zuC_1, zuC_2, reduceIte, Nat.reduceEqDiff, false_and, and_false, true_and, and_true, and_self, or_true, true_or, or_false, false_or] at e125
          exact zs_iret (pc := 128) C hr hlk dX9_feed_128 ⟨by repeat (first | exact zsm_rf | assumption | refine zsm_C (by decide) ?_ | refine zsm_I (by decide) ?_ | refine zsm_J ?_ | refine zsm_c (by assumption) (by decide) ?_), fun h1 => (by first | (exfalso; omega) | exact ⟨rfl, by simp only [zuI_1, zuI_2, zuJ_1, zuJ_2, zuJ_3, zuP_1, zuP_2, zuP_3, zuC_1, zuC_2, reduceIte, Nat.reduceEqDiff, false_and, and_false, true_and, and_true, and_self, or_true, true_or, or_false, false_or], fun i => by simp only [zuI_1, zuI_2, zuJ_1, zuJ_2, zuJ_3, zuP_1, zuP_2, zuP_3, zuC_1, zuC_2, reduceIte, Nat.reduceEqDiff, false_and, and_false, true_and, and_true, and_self, or_true, true_or, or_false, false_or]⟩), fun h1 => (by first | (exfalso; omega) | (refine ⟨by omega, by simp only [zuI_1, zuI_2, zuJ_1, zuJ_2, zuJ_3, zuP_1, zuP_2, zuP_3, zuC_1, zuC_2, reduceIte, Nat.reduceEqDiff, false_and, and_false, true_and, and_true, and_self, or_true, true_or, or_false, false_or]; omega, fun i => ?_⟩; simp only [zuI_1, zuI_2, zuJ_1, zuJ_2, zuJ_3, zuP_1, zuP_2, zuP_3, zuC_1, zuC_2, reduceIte, Nat.reduceEqDiff, false_and, and_false, true_and, and_true, and_self, or_true, true_or, or_false, false_or]; have h9 := h23_2 i; rw [show G.1 1001 w 0 + x6 = G.1 1001 w 0 + 20 by omega] at h9; exact h9))⟩
        · skip
          refine zs_iload (pc := 30) C dX9_feed_30 rfl ?_
          refine zs_iconst (pc := 32) C dX9_feed_32 (by decide) ?_
          refine zs_icmp_ge (tgt := 40) (pc := 33) C dX9_feed_33 (by decide) (fun h33 => ?_) (fun h33 => ?_)
          · skip
            refine zs_iload (pc := 40) C dX9_feed_40 rfl ?_
            refine zs_bipush (pc := 42) C dX9_feed_42 (by decide) (by decide) ?_
            refine zs_icmp_ge (tgt := 51) (pc := 44) C dX9_feed_44 (by decide) (fun h44 => ?_) (fun h44 => ?_)
            · skip
              refine zs_iload (pc := 51) C dX9_feed_51 rfl ?_
              refine zs_bipush (pc := 53) C dX9_feed_53 (by decide) (by decide) ?_
              refine zs_icmp_ge (tgt := 62) (pc := 55) C dX9_feed_55 (by decide) (fun h55 => ?_) (fun h55 => ?_)
              · skip
                refine zs_iload (pc := 62) C dX9_feed_62 rfl ?_
                refine zs_bipush (pc := 64) C dX9_feed_64 (by decide) (by decide) ?_
                refine zs_icmp_ge (tgt := 74) (pc := 66) C dX9_feed_66 (by decide) (fun h66 => ?_) (fun h66 => ?_)
                · skip
                  refine zs_iload (pc := 74) C dX9_feed_74 rfl ?_
                  refine zs_istore (pc := 76) C dX9_feed_76 (by decide) ?_
                  dsimp only [zset, zclr, znone]
                  refine zs_aload_n (pc := 78) C dX9_feed_78 rfl ?_
                  refine zs_getf (pc := 79) C dX9_feed_79 w_X9_7 f_10_0 (by decide) ?_
                  refine zs_aload_n (pc := 82) C dX9_feed_82 rfl ?_
                  refine zs_geti (r := 1001) (pc := 83) C dX9_feed_83 w_X9_181 f_10_1 rfl (r_1001 0) (fun v83 e83 l83 u83 => ?_)
                  refine zs_iload (pc := 86) C dX9_feed_86 rfl ?_
                  first | refine zs_iadd (pc := 88) C dX9_feed_88 (by omega) ?_ | refine zs_iaddF (pc := 88) C dX9_feed_88 (fun z88 hz881 hz882 => ?_)
                  refine zs_iload (pc := 89) C dX9_feed_89 rfl ?_
                  refine zs_bipush (pc := 91) C dX9_feed_91 (by decide) (by decide) ?_
                  refine zs_bipush (pc := 93) C dX9_feed_93 (by decide) (by decide) ?_
                  refine zs_iload (pc := 95) C dX9_feed_95 rfl ?_
                  refine zs_iconst (pc := 97) C dX9_feed_97 (by decide) ?_
                  first | refine zs_irem (pc := 98) C dX9_feed_98 (by omega) (by omega) (fun hz981 hz982 => ?_) | refine zs_iremF (pc := 98) C dX9_feed_98 (by omega) (fun z98 hz981 hz982 => ?_)
                  first | refine zs_imul (pc := 99) C dX9_feed_99 (by omega) ?_ | refine zs_imulF (pc := 99) C dX9_feed_99 (fun z99 hz991 hz992 => ?_)
                  first | refine zs_isub (pc := 100) C dX9_feed_100 (by omega) ?_ | refine zs_isubF (pc := 100) C dX9_feed_100 (fun z100 hz1001 hz1002 => ?_)
                  refine zs_ishrX (pc := 101) C dX9_feed_101 (fun z101 ez101 hz1011 hz1012 => ?_)
                  refine zs_sipush (pc := 102) C dX9_feed_102 (by decide) (by decide) ?_
                  refine zs_iandX (pc := 105) C dX9_feed_105 (fun z105 ez105 hz1051 hz1052 => ?_)
                  have hby : 0 ≤ z105 ∧ z105 ≤ 255 := by rw [ez105, ez101]; exact byt_in _ _
                  refine zs_iast (r := 2057) (pc := 106) C dX9_feed_106 a_57 (by decide) (by omega) rfl (r_2057 _) (by omega) ?_
                  first | refine zs_iinc (pc := 107) C dX9_feed_107 rfl (by decide) (by omega) ?_ | refine zs_iincF (pc := 107) C dX9_feed_107 rfl (by decide) (fun z107 hz1071 hz1072 => ?_)
                  dsimp only [zset, zclr, znone]
                  refine zs_goto (tgt := 23) (pc := 110) C dX9_feed_110 (by decide) ?_
                  exact zs_wk (ih23 _ _ (by first | omega | (simp only [zuI_1, zuI_2, zuJ_1, zuJ_2, zuJ_3, zuP_1, zuP_2, zuP_3, zuC_1, zuC_2, reduceIte, Nat.reduceEqDiff, false_and, and_false, true_and, and_true, and_self, or_true, true_or, or_false, false_or]; omega)) (by repeat (first | exact zsm_rf | assumption | refine zsm_C (by decide) ?_ | refine zsm_I (by decide) ?_ | refine zsm_J ?_ | refine zsm_c (by assumption) (by decide) ?_)) (by simp only [zuI_1, zuI_2, zuJ_1, zuJ_2, zuJ_3, zuP_1, zuP_2, zuP_3, zuC_1, zuC_2, reduceIte, Nat.reduceEqDiff, false_and, and_false, true_and, and_true, and_self, or_true, true_or, or_false, false_or, ← Int.add_assoc]; exact fill_step h23_2 (by omega) (by omega) (by unfold ff; (repeat' split) <;> first | (exfalso; omega) | (rw [ez105, ez101]; unfold byt; congr 2; omega))) (by first | omega | (simp only [zuI_1, zuI_2, zuJ_1, zuJ_2, zuJ_3, zuP_1, zuP_2, zuP_3, zuC_1, zuC_2, reduceIte, Nat.reduceEqDiff, false_and, and_false, true_and, and_true, and_self, or_true, true_or, or_false, false_or]; omega))) (zwk_s rfl (zwk_s rfl (zwk_s rfl (zwk_s rfl (zwk_s rfl (zwk_s rfl (zwk_s rfl (zwk_n zwk_0))))))))
                · skip
                  refine zs_iload (pc := 69) C dX9_feed_69 rfl ?_
                  refine zs_goto (tgt := 76) (pc := 71) C dX9_feed_71 (by decide) ?_
                  refine zs_istore (pc := 76) C dX9_feed_76 (by decide) ?_
                  dsimp only [zset, zclr, znone]
                  refine zs_aload_n (pc := 78) C dX9_feed_78 rfl ?_
                  refine zs_getf (pc := 79) C dX9_feed_79 w_X9_7 f_10_0 (by decide) ?_
                  refine zs_aload_n (pc := 82) C dX9_feed_82 rfl ?_
                  refine zs_geti (r := 1001) (pc := 83) C dX9_feed_83 w_X9_181 f_10_1 rfl (r_1001 0) (fun v83 e83 l83 u83 => ?_)
                  refine zs_iload (pc := 86) C dX9_feed_86 rfl ?_
                  first | refine zs_iadd (pc := 88) C dX9_feed_88 (by omega) ?_ | refine zs_iaddF (pc := 88) C dX9_feed_88 (fun z88 hz881 hz882 => ?_)
                  refine zs_iload (pc := 89) C dX9_feed_89 rfl ?_
                  refine zs_bipush (pc := 91) C dX9_feed_91 (by decide) (by decide) ?_
                  refine zs_bipush (pc := 93) C dX9_feed_93 (by decide) (by decide) ?_
                  refine zs_iload (pc := 95) C dX9_feed_95 rfl ?_
                  refine zs_iconst (pc := 97) C dX9_feed_97 (by decide) ?_
                  first | refine zs_irem (pc := 98) C dX9_feed_98 (by omega) (by omega) (fun hz981 hz982 => ?_) | refine zs_iremF (pc := 98) C dX9_feed_98 (by omega) (fun z98 hz981 hz982 => ?_)
                  first | refine zs_imul (pc := 99) C dX9_feed_99 (by omega) ?_ | refine zs_imulF (pc := 99) C dX9_feed_99 (fun z99 hz991 hz992 => ?_)
                  first | refine zs_isub (pc := 100) C dX9_feed_100 (by omega) ?_ | refine zs_isubF (pc := 100) C dX9_feed_100 (fun z100 hz1001 hz1002 => ?_)
                  refine zs_ishrX (pc := 101) C dX9_feed_101 (fun z101 ez101 hz1011 hz1012 => ?_)
                  refine zs_sipush (pc := 102) C dX9_feed_102 (by decide) (by decide) ?_
                  refine zs_iandX (pc := 105) C dX9_feed_105 (fun z105 ez105 hz1051 hz1052 => ?_)
                  have hby : 0 ≤ z105 ∧ z105 ≤ 255 := by rw [ez105, ez101]; exact byt_in _ _
                  refine zs_iast (r := 2057) (pc := 106) C dX9_feed_106 a_57 (by decide) (by omega) rfl (r_2057 _) (by omega) ?_
                  first | refine zs_iinc (pc := 107) C dX9_feed_107 rfl (by decide) (by omega) ?_ | refine zs_iincF (pc := 107) C dX9_feed_107 rfl (by decide) (fun z107 hz1071 hz1072 => ?_)
                  dsimp only [zset, zclr, znone]
                  refine zs_goto (tgt := 23) (pc := 110) C dX9_feed_110 (by decide) ?_
                  exact zs_wk (ih23 _ _ (by first | omega | (simp only [zuI_1, zuI_2, zuJ_1, zuJ_2, zuJ_3, zuP_1, zuP_2, zuP_3, zuC_1, zuC_2, reduceIte, Nat.reduceEqDiff, false_and, and_false, true_and, and_true, and_self, or_true, true_or, or_false, false_or]; omega)) (by repeat (first | exact zsm_rf | assumption | refine zsm_C (by decide) ?_ | refine zsm_I (by decide) ?_ | refine zsm_J ?_ | refine zsm_c (by assumption) (by decide) ?_)) (by simp only [zuI_1, zuI_2, zuJ_1, zuJ_2, zuJ_3, zuP_1, zuP_2, zuP_3, zuC_1, zuC_2, reduceIte, Nat.reduceEqDiff, false_and, and_false, true_and, and_true, and_self, or_true, true_or, or_false, false_or, ← Int.add_assoc]; exact fill_step h23_2 (by omega) (by omega) (by unfold ff; (repeat' split) <;> first | (exfalso; omega) | (rw [ez105, ez101]; unfold byt; congr 2; omega))) (by first | omega | (simp only [zuI_1, zuI_2, zuJ_1, zuJ_2, zuJ_3, zuP_1, zuP_2, zuP_3, zuC_1, zuC_2, reduceIte, Nat.reduceEqDiff, false_and, and_false, true_and, and_true, and_self, or_true, true_or, or_false, false_or]; omega))) (zwk_s rfl (zwk_s rfl (zwk_s rfl (zwk_s rfl (zwk_s rfl (zwk_s rfl (zwk_s rfl (zwk_n zwk_0))))))))
              · skip
                refine zs_iload_n (pc := 58) C dX9_feed_58 rfl ?_
                refine zs_goto (tgt := 76) (pc := 59) C dX9_feed_59 (by decide) ?_
                refine zs_istore (pc := 76) C dX9_feed_76 (by decide) ?_
                dsimp only [zset, zclr, znone]
                refine zs_aload_n (pc := 78) C dX9_feed_78 rfl ?_
                refine zs_getf (pc := 79) C dX9_feed_79 w_X9_7 f_10_0 (by decide) ?_
                refine zs_aload_n (pc := 82) C dX9_feed_82 rfl ?_
                refine zs_geti (r := 1001) (pc := 83) C dX9_feed_83 w_X9_181 f_10_1 rfl (r_1001 0) (fun v83 e83 l83 u83 => ?_)
                refine zs_iload (pc := 86) C dX9_feed_86 rfl ?_
                first | refine zs_iadd (pc := 88) C dX9_feed_88 (by omega) ?_ | refine zs_iaddF (pc := 88) C dX9_feed_88 (fun z88 hz881 hz882 => ?_)
                refine zs_iload (pc := 89) C dX9_feed_89 rfl ?_
                refine zs_bipush (pc := 91) C dX9_feed_91 (by decide) (by decide) ?_
                refine zs_bipush (pc := 93) C dX9_feed_93 (by decide) (by decide) ?_
                refine zs_iload (pc := 95) C dX9_feed_95 rfl ?_
                refine zs_iconst (pc := 97) C dX9_feed_97 (by decide) ?_
                first | refine zs_irem (pc := 98) C dX9_feed_98 (by omega) (by omega) (fun hz981 hz982 => ?_) | refine zs_iremF (pc := 98) C dX9_feed_98 (by omega) (fun z98 hz981 hz982 => ?_)
                first | refine zs_imul (pc := 99) C dX9_feed_99 (by omega) ?_ | refine zs_imulF (pc := 99) C dX9_feed_99 (fun z99 hz991 hz992 => ?_)
                first | refine zs_isub (pc := 100) C dX9_feed_100 (by omega) ?_ | refine zs_isubF (pc := 100) C dX9_feed_100 (fun z100 hz1001 hz1002 => ?_)
                refine zs_ishrX (pc := 101) C dX9_feed_101 (fun z101 ez101 hz1011 hz1012 => ?_)
                refine zs_sipush (pc := 102) C dX9_feed_102 (by decide) (by decide) ?_
                refine zs_iandX (pc := 105) C dX9_feed_105 (fun z105 ez105 hz1051 hz1052 => ?_)
                have hby : 0 ≤ z105 ∧ z105 ≤ 255 := by rw [ez105, ez101]; exact byt_in _ _
                refine zs_iast (r := 2057) (pc := 106) C dX9_feed_106 a_57 (by decide) (by omega) rfl (r_2057 _) (by omega) ?_
                first | refine zs_iinc (pc := 107) C dX9_feed_107 rfl (by decide) (by omega) ?_ | refine zs_iincF (pc := 107) C dX9_feed_107 rfl (by decide) (fun z107 hz1071 hz1072 => ?_)
                dsimp only [zset, zclr, znone]
                refine zs_goto (tgt := 23) (pc := 110) C dX9_feed_110 (by decide) ?_
                exact zs_wk (ih23 _ _ (by first | omega | (simp only [zuI_1, zuI_2, zuJ_1, zuJ_2, zuJ_3, zuP_1, zuP_2, zuP_3, zuC_1, zuC_2, reduceIte, Nat.reduceEqDiff, false_and, and_false, true_and, and_true, and_self, or_true, true_or, or_false, false_or]; omega)) (by repeat (first | exact zsm_rf | assumption | refine zsm_C (by decide) ?_ | refine zsm_I (by decide) ?_ | refine zsm_J ?_ | refine zsm_c (by assumption) (by decide) ?_)) (by simp only [zuI_1, zuI_2, zuJ_1, zuJ_2, zuJ_3, zuP_1, zuP_2, zuP_3, zuC_1, zuC_2, reduceIte, Nat.reduceEqDiff, false_and, and_false, true_and, and_true, and_self, or_true, true_or, or_false, false_or, ← Int.add_assoc]; exact fill_step h23_2 (by omega) (by omega) (by unfold ff; (repeat' split) <;> first | (exfalso; omega) | (rw [ez105, ez101]; unfold byt; congr 2; omega))) (by first | omega | (simp only [zuI_1, zuI_2, zuJ_1, zuJ_2, zuJ_3, zuP_1, zuP_2, zuP_3, zuC_1, zuC_2, reduceIte, Nat.reduceEqDiff, false_and, and_false, true_and, and_true, and_self, or_true, true_or, or_false, false_or]; omega))) (zwk_s rfl (zwk_s rfl (zwk_s rfl (zwk_s rfl (zwk_s rfl (zwk_s rfl (zwk_s rfl (zwk_n zwk_0))))))))
            · skip
              refine zs_iload_n (pc := 47) C dX9_feed_47 rfl ?_
              refine zs_goto (tgt := 76) (pc := 48) C dX9_feed_48 (by decide) ?_
              refine zs_istore (pc := 76) C dX9_feed_76 (by decide) ?_
              dsimp only [zset, zclr, znone]
              refine zs_aload_n (pc := 78) C dX9_feed_78 rfl ?_
              refine zs_getf (pc := 79) C dX9_feed_79 w_X9_7 f_10_0 (by decide) ?_
              refine zs_aload_n (pc := 82) C dX9_feed_82 rfl ?_
              refine zs_geti (r := 1001) (pc := 83) C dX9_feed_83 w_X9_181 f_10_1 rfl (r_1001 0) (fun v83 e83 l83 u83 => ?_)
              refine zs_iload (pc := 86) C dX9_feed_86 rfl ?_
              first | refine zs_iadd (pc := 88) C dX9_feed_88 (by omega) ?_ | refine zs_iaddF (pc := 88) C dX9_feed_88 (fun z88 hz881 hz882 => ?_)
              refine zs_iload (pc := 89) C dX9_feed_89 rfl ?_
              refine zs_bipush (pc := 91) C dX9_feed_91 (by decide) (by decide) ?_
              refine zs_bipush (pc := 93) C dX9_feed_93 (by decide) (by decide) ?_
              refine zs_iload (pc := 95) C dX9_feed_95 rfl ?_
              refine zs_iconst (pc := 97) C dX9_feed_97 (by decide) ?_
              first | refine zs_irem (pc := 98) C dX9_feed_98 (by omega) (by omega) (fun hz981 hz982 => ?_) | refine zs_iremF (pc := 98) C dX9_feed_98 (by omega) (fun z98 hz981 hz982 => ?_)
              first | refine zs_imul (pc := 99) C dX9_feed_99 (by omega) ?_ | refine zs_imulF (pc := 99) C dX9_feed_99 (fun z99 hz991 hz992 => ?_)
              first | refine zs_isub (pc := 100) C dX9_feed_100 (by omega) ?_ | refine zs_isubF (pc := 100) C dX9_feed_100 (fun z100 hz1001 hz1002 => ?_)
              refine zs_ishrX (pc := 101) C dX9_feed_101 (fun z101 ez101 hz1011 hz1012 => ?_)
              refine zs_sipush (pc := 102) C dX9_feed_102 (by decide) (by decide) ?_
              refine zs_iandX (pc := 105) C dX9_feed_105 (fun z105 ez105 hz1051 hz1052 => ?_)
              have hby : 0 ≤ z105 ∧ z105 ≤ 255 := by rw [ez105, ez101]; exact byt_in _ _
              refine zs_iast (r := 2057) (pc := 106) C dX9_feed_106 a_57 (by decide) (by omega) rfl (r_2057 _) (by omega) ?_
              first | refine zs_iinc (pc := 107) C dX9_feed_107 rfl (by decide) (by omega) ?_ | refine zs_iincF (pc := 107) C dX9_feed_107 rfl (by decide) (fun z107 hz1071 hz1072 => ?_)
              dsimp only [zset, zclr, znone]
              refine zs_goto (tgt := 23) (pc := 110) C dX9_feed_110 (by decide) ?_
              exact zs_wk (ih23 _ _ (by first | omega | (simp only [zuI_1, zuI_2, zuJ_1, zuJ_2, zuJ_3, zuP_1, zuP_2, zuP_3, zuC_1, zuC_2, reduceIte, Nat.reduceEqDiff, false_and, and_false, true_and, and_true, and_self, or_true, true_or, or_false, false_or]; omega)) (by repeat (first | exact zsm_rf | assumption | refine zsm_C (by decide) ?_ | refine zsm_I (by decide) ?_ | refine zsm_J ?_ | refine zsm_c (by assumption) (by decide) ?_)) (by simp only [zuI_1, zuI_2, zuJ_1, zuJ_2, zuJ_3, zuP_1, zuP_2, zuP_3, zuC_1, zuC_2, reduceIte, Nat.reduceEqDiff, false_and, and_false, true_and, and_true, and_self, or_true, true_or, or_false, false_or, ← Int.add_assoc]; exact fill_step h23_2 (by omega) (by omega) (by unfold ff; (repeat' split) <;> first | (exfalso; omega) | (rw [ez105, ez101]; unfold byt; congr 2; omega))) (by first | omega | (simp only [zuI_1, zuI_2, zuJ_1, zuJ_2, zuJ_3, zuP_1, zuP_2, zuP_3, zuC_1, zuC_2, reduceIte, Nat.reduceEqDiff, false_and, and_false, true_and, and_true, and_self, or_true, true_or, or_false, false_or]; omega))) (zwk_s rfl (zwk_s rfl (zwk_s rfl (zwk_s rfl (zwk_s rfl (zwk_s rfl (zwk_s rfl (zwk_n zwk_0))))))))
          · skip
            refine zs_iload_n (pc := 36) C dX9_feed_36 rfl ?_
            refine zs_goto (tgt := 76) (pc := 37) C dX9_feed_37 (by decide) ?_
            refine zs_istore (pc := 76) C dX9_feed_76 (by decide) ?_
            dsimp only [zset, zclr, znone]
            refine zs_aload_n (pc := 78) C dX9_feed_78 rfl ?_
            refine zs_getf (pc := 79) C dX9_feed_79 w_X9_7 f_10_0 (by decide) ?_
            refine zs_aload_n (pc := 82) C dX9_feed_82 rfl ?_
            refine zs_geti (r := 1001) (pc := 83) C dX9_feed_83 w_X9_181 f_10_1 rfl (r_1001 0) (fun v83 e83 l83 u83 => ?_)
            refine zs_iload (pc := 86) C dX9_feed_86 rfl ?_
            first | refine zs_iadd (pc := 88) C dX9_feed_88 (by omega) ?_ | refine zs_iaddF (pc := 88) C dX9_feed_88 (fun z88 hz881 hz882 => ?_)
            refine zs_iload (pc := 89) C dX9_feed_89 rfl ?_
            refine zs_bipush (pc := 91) C dX9_feed_91 (by decide) (by decide) ?_
            refine zs_bipush (pc := 93) C dX9_feed_93 (by decide) (by decide) ?_
            refine zs_iload (pc := 95) C dX9_feed_95 rfl ?_
            refine zs_iconst (pc := 97) C dX9_feed_97 (by decide) ?_
            first | refine zs_irem (pc := 98) C dX9_feed_98 (by omega) (by omega) (fun hz981 hz982 => ?_) | refine zs_iremF (pc := 98) C dX9_feed_98 (by omega) (fun z98 hz981 hz982 => ?_)
            first | refine zs_imul (pc := 99) C dX9_feed_99 (by omega) ?_ | refine zs_imulF (pc := 99) C dX9_feed_99 (fun z99 hz991 hz992 => ?_)
            first | refine zs_isub (pc := 100) C dX9_feed_100 (by omega) ?_ | refine zs_isubF (pc := 100) C dX9_feed_100 (fun z100 hz1001 hz1002 => ?_)
            refine zs_ishrX (pc := 101) C dX9_feed_101 (fun z101 ez101 hz1011 hz1012 => ?_)
            refine zs_sipush (pc := 102) C dX9_feed_102 (by decide) (by decide) ?_
            refine zs_iandX (pc := 105) C dX9_feed_105 (fun z105 ez105 hz1051 hz1052 => ?_)
            have hby : 0 ≤ z105 ∧ z105 ≤ 255 := by rw [ez105, ez101]; exact byt_in _ _
            refine zs_iast (r := 2057) (pc := 106) C dX9_feed_106 a_57 (by decide) (by omega) rfl (r_2057 _) (by omega) ?_
            first | refine zs_iinc (pc := 107) C dX9_feed_107 rfl (by decide) (by omega) ?_ | refine zs_iincF (pc := 107) C dX9_feed_107 rfl (by decide) (fun z107 hz1071 hz1072 => ?_)
            dsimp only [zset, zclr, znone]
            refine zs_goto (tgt := 23) (pc := 110) C dX9_feed_110 (by decide) ?_
            exact zs_wk (ih23 _ _ (by first | omega | (simp only [zuI_1, zuI_2, zuJ_1, zuJ_2, zuJ_3, zuP_1, zuP_2, zuP_3, zuC_1, zuC_2, reduceIte, Nat.reduceEqDiff, false_and, and_false, true_and, and_true, and_self, or_true, true_or, or_false, false_or]; omega)) (by repeat (first | exact zsm_rf | assumption | refine zsm_C (by decide) ?_ | refine zsm_I (by decide) ?_ | refine zsm_J ?_ | refine zsm_c (by assumption) (by decide) ?_)) (by simp only [zuI_1, zuI_2, zuJ_1, zuJ_2, zuJ_3, zuP_1, zuP_2, zuP_3, zuC_1, zuC_2, reduceIte, Nat.reduceEqDiff, false_and, and_false, true_and, and_true, and_self, or_true, true_or, or_false, false_or, ← Int.add_assoc]; exact fill_step h23_2 (by omega) (by omega) (by unfold ff; (repeat' split) <;> first | (exfalso; omega) | (rw [ez105, ez101]; unfold byt; congr 2; omega))) (by first | omega | (simp only [zuI_1, zuI_2, zuJ_1, zuJ_2, zuJ_3, zuP_1, zuP_2, zuP_3, zuC_1, zuC_2, reduceIte, Nat.reduceEqDiff, false_and, and_false, true_and, and_true, and_self, or_true, true_or, or_false, false_or]; omega))) (zwk_s rfl (zwk_s rfl (zwk_s rfl (zwk_s rfl (zwk_s rfl (zwk_s rfl (zwk_s rfl (zwk_n zwk_0))))))))
    exact zs_wk (L23 _ _ _ (by first | omega | (simp only [zuI_1, zuI_2, zuJ_1, zuJ_2, zuJ_3, zuP_1, zuP_2, zuP_3, zuC_1, zuC_2, reduceIte, Nat.reduceEqDiff, false_and, and_false, true_and, and_true, and_self, or_true, true_or, or_false, false_or]; omega)) (by repeat (first | exact zsm_rf | assumption | refine zsm_C (by decide) ?_ | refine zsm_I (by decide) ?_ | refine zsm_J ?_ | refine zsm_c (by assumption) (by decide) ?_)) (fun i => by rw [if_neg (by omega)]; try simp only [zuI_1, zuI_2, zuJ_1, zuJ_2, zuJ_3, zuP_1, zuP_2, zuP_3, zuC_1, zuC_2, reduceIte, Nat.reduceEqDiff, false_and, and_false, true_and, and_true, and_self, or_true, true_or, or_false, false_or]) (Nat.lt_succ_self _)) (zwk_s rfl (zwk_s rfl (zwk_s rfl (zwk_s rfl (zwk_s rfl (zwk_s rfl (zwk_s rfl (zwk_n zwk_0))))))))
  · skip
    refine zs_iconst (pc := 18) C dX9_feed_18 (by decide) ?_
    exact zs_iret (pc := 19) C hr hlk dX9_feed_19 ⟨by repeat (first | exact zsm_rf | assumption | refine zsm_C (by decide) ?_ | refine zsm_I (by decide) ?_ | refine zsm_J ?_ | refine zsm_c (by assumption) (by decide) ?_), fun h1 => (by first | (exfalso; omega) | exact ⟨rfl, by simp only [zuI_1, zuI_2, zuJ_1, zuJ_2, zuJ_3, zuP_1, zuP_2, zuP_3, zuC_1, zuC_2, reduceIte, Nat.reduceEqDiff, false_and, and_false, true_and, and_true, and_self, or_true, true_or, or_false, false_or], fun i => by simp only [zuI_1, zuI_2, zuJ_1, zuJ_2, zuJ_3, zuP_1, zuP_2, zuP_3, zuC_1, zuC_2, reduceIte, Nat.reduceEqDiff, false_and, and_false, true_and, and_true, and_self, or_true, true_or, or_false, false_or]⟩), fun h1 => (by first | (exfalso; omega) | (refine ⟨by omega, by simp only [zuI_1, zuI_2, zuJ_1, zuJ_2, zuJ_3, zuP_1, zuP_2, zuP_3, zuC_1, zuC_2, reduceIte, Nat.reduceEqDiff, false_and, and_false, true_and, and_true, and_self, or_true, true_or, or_false, false_or]; omega, fun i => ?_⟩; simp only [zuI_1, zuI_2, zuJ_1, zuJ_2, zuJ_3, zuP_1, zuP_2, zuP_3, zuC_1, zuC_2, reduceIte, Nat.reduceEqDiff, false_and, and_false, true_and, and_true, and_self, or_true, true_or, or_false, false_or]; have h9 := h23_2 i; rw [show G.1 1001 w 0 + x6 = G.1 1001 w 0 + 20 by omega] at h9; exact h9))⟩
