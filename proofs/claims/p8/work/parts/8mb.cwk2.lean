set_option maxHeartbeats 4000000 in
set_option maxRecDepth 100000 in
theorem c_X7_grindOneK {l : Launch} {Γ : zΓ} {G : zH} {w t : Nat} {A W : aS} {p s wr : Int} (hX : zXs Γ) (hZ : QQ Γ w t A W G) (hW : WI A W) (hT : TA A) (hp : 0 ≤ p ∧ p ≤ 4) (hs : 0 ≤ s ∧ s ≤ 3) (hps : p < A 4 1 ∧ s < A 4 0) (hwr : wr = 0 ∨ wr = 1)  : zMet l Γ yX7_grindOne cX7_grindOne 5 none 3 [zr 8 w, zi p, zi s, zi wr] G (zpv (fun G' => zsm [510, 2026, 2027, 2028, 2029, 2030, 2031, 2032, 2033, 2034, 2035, 810, 811, 2049, 2050, 2051] G G' ∧ QQ Γ w t A (wGrind A W p s wr) G')) := by
  have hI := QQ_t hZ
  have hll := WI_L hW hp hs
  have h13 := hW.2.2.2.2.1 p.toNat (by omega)
  have h00 := hW.1
  obtain ⟨w18, w19, w20, w21, w22⟩ := hW.2.2.2.2.2
  have hWL := WI_WL hW
  have hlw : wL W p s = W 12 (p * 4 + s).toNat := rfl
  have h1399 := hT.2.2.2.2.2.1
  have hp9 : wPort A W = min (A 13 0) (W 19 0) := rfl
  refine zMet_of RX7 hX (by decide) rfl (Nat.le_of_ble_eq_true rfl) ?_
  intro px9 e sx9 m args below meth c C hr hlk
  show Z px9 l e (zrm 3) sx9 m args below meth c Γ 5 0 0 (MQ below (zQc Γ (zpv (fun G' => zsm [510, 2026, 2027, 2028, 2029, 2030, 2031, 2032, 2033, 2034, 2035, 810, 811, 2049, 2050, 2051] G G' ∧ QQ Γ w t A (wGrind A W p s wr) G'))) args sx9 0 0 (zA Γ)) 0 [some (zr 8 w), some (zi p), some (zi s), some (zi wr), none] [] G
  refine zs_loc 1 rfl (fun ha1 hb1 => ?_)
  refine zs_loc 2 rfl (fun ha2 hb2 => ?_)
  refine zs_loc 3 rfl (fun ha3 hb3 => ?_)
  refine zs_aload_n (pc := 0) C dX7_grindOne_0 rfl ?_
  refine zVip0 (pc := 1) C dX7_grindOne_1 v_X7_171 (c_X7_canGrindK hX hZ) (by decide) (by decide) ⟨Nat.zero_le _, Nat.zero_le _⟩ (Nat.le_of_ble_eq_true rfl) (fun x1 l1 u1 hp1 => ?_)
  have hq1 := hp1
  refine zs_if_ne (tgt := 8) (pc := 4) C dX7_grindOne_4 (by decide) (fun h4 => ?_) (fun h4 => ?_)
  · skip
    have hcan : wCan W := hq1.2.mp (by omega)
    obtain ⟨hc1, hc2⟩ := id hcan
    have hwe : 0 ≤ wWear A W p s ∧ wWear A W p s ≤ 99 := bV_in (by omega) (by omega)
    refine zs_aload_n (pc := 8) C dX7_grindOne_8 rfl ?_
    have J192 : ∀ (Gz : zH), (zsm [510, 2026, 2027, 2028, 2029, 2030, 2031, 2032, 2033, 2034, 2035, 810, 811, 2049, 2050, 2051] G Gz) → (QQ Γ w t A (up (up (up (up (up (up (up (up (up (up (up (up W 1 (W 0 0).toNat p) 2 (W 0 0).toNat s) 3 (W 0 0).toNat (wFine A W p s)) 4 (W 0 0).toNat (wPort A W)) 5 (W 0 0).toNat (wPort A W)) 6 (W 0 0).toNat (W 13 p.toNat)) 7 (W 0 0).toNat (W 20 0)) 8 (W 0 0).toNat (wPr W p)) 9 (W 0 0).toNat (W 18 0)) 10 (W 0 0).toNat (wBits W p)) 0 0 (W 0 0 + 1)) 19 0 (W 19 0 - wPort A W)) Gz) → (∀ j : Nat, j < 7 → Gz.2.1 2018 (Γ.2.1 (Γ.2.1 t 0) 4) j = wNm A W p s j) → Z px9 l e (zrm 3) sx9 m args below meth c Γ 5 0 0 (MQ below (zQc Γ (zpv (fun G' => zsm [510, 2026, 2027, 2028, 2029, 2030, 2031, 2032, 2033, 2034, 2035, 810, 811, 2049, 2050, 2051] G G' ∧ QQ Γ w t A (wGrind A W p s wr) G'))) args sx9 0 0 (zA Γ)) 192 [some (zr 8 w), some (zi p), some (zi s), some (zi wr), some (zi (W 0 0))] [] Gz := by
      intro Gz h192_0 h192_1 h192_2
      refine zs_aload_n (pc := 192) C dX7_grindOne_192 rfl ?_
      refine zs_iload_n (pc := 193) C dX7_grindOne_193 rfl ?_
      have J218 : ∀ (y1 : Int) (Gy : zH), (y1 = (if wr ≠ 0 then min 99999 (W 20 0 + wWear A W p s) else W 20 0)) → (zsm [510, 2026, 2027, 2028, 2029, 2030, 2031, 2032, 2033, 2034, 2035, 810, 811, 2049, 2050, 2051] G Gy) → (QQ Γ w t A (up (up (up (up (up (up (up (up (up (up (up (up W 1 (W 0 0).toNat p) 2 (W 0 0).toNat s) 3 (W 0 0).toNat (wFine A W p s)) 4 (W 0 0).toNat (wPort A W)) 5 (W 0 0).toNat (wPort A W)) 6 (W 0 0).toNat (W 13 p.toNat)) 7 (W 0 0).toNat (W 20 0)) 8 (W 0 0).toNat (wPr W p)) 9 (W 0 0).toNat (W 18 0)) 10 (W 0 0).toNat (wBits W p)) 0 0 (W 0 0 + 1)) 19 0 (W 19 0 - wPort A W)) Gy) → Z px9 l e (zrm 3) sx9 m args below meth c Γ 5 0 0 (MQ below (zQc Γ (zpv (fun G' => zsm [510, 2026, 2027, 2028, 2029, 2030, 2031, 2032, 2033, 2034, 2035, 810, 811, 2049, 2050, 2051] G G' ∧ QQ Γ w t A (wGrind A W p s wr) G'))) args sx9 0 0 (zA Γ)) 218 [some (zr 8 w), some (zi p), some (zi s), some (zi wr), some (zi (W 0 0))] [zi y1, zr 8 w] Gy := by
        intro y1 Gy h218_0 h218_1 h218_2
        have hy9 : 0 ≤ y1 ∧ y1 ≤ 99999 := by rw [h218_0]; split <;> omega
        skip
        refine zs_puti (r := 811) (pc := 218) C dX7_grindOne_218 w_X7_79 f_8_11 rfl (r_811 0) (by omega) ?_
        refine zs_aload_n (pc := 221) C dX7_grindOne_221 rfl ?_
        refine zs_getf (pc := 222) C dX7_grindOne_222 w_X7_25 f_8_4 (by decide) ?_
        refine zs_iload_n (pc := 225) C dX7_grindOne_225 rfl ?_
        refine zs_dup2 (pc := 226) C dX7_grindOne_226 ?_
        refine zs_iald (r := 2050) (pc := 227) C dX7_grindOne_227 a_50 (by decide) (by omega) rfl (r_2050 _) (fun v227 e227 l227 u227 => ?_)
        try simp only [zuI_1, zuI_2, zuJ_1, zuJ_2, zuJ_3, zuP_1, zuP_2, zuP_3, zuC_1, zuC_2, reduceIte, Nat.reduceEqDiff, false_and, and_false, true_and, and_true, and_self, or_true, true_or, or_false, false_or] at e227
        try simp only [QQ_2050 h218_2] at e227
        try simp (disch := decide) only [up_f, up_fn] at e227
        try subst v227
        refine zs_iconst (pc := 228) C dX7_grindOne_228 (by decide) ?_
        first | refine zs_iadd (pc := 229) C dX7_grindOne_229 (by omega) ?_ | refine zs_iaddF (pc := 229) C dX7_grindOne_229 (fun z229 hz2291 hz2292 => ?_)
        refine zs_iast (r := 2050) (pc := 230) C dX7_grindOne_230 a_50 (by decide) (by omega) rfl (r_2050 _) (by omega) ?_
        refine zs_aload_n (pc := 231) C dX7_grindOne_231 rfl ?_
        refine zs_getf (pc := 232) C dX7_grindOne_232 w_X7_12 f_8_1 (by decide) ?_
        refine zs_iload (pc := 235) C dX7_grindOne_235 rfl ?_
        refine zs_iload_n (pc := 237) C dX7_grindOne_237 rfl ?_
        refine zVip2 (pc := 238) C dX7_grindOne_238 v_X7_141 (c_X4_lieByK hX (by with_reducible repeat (first | assumption | apply QQw_510 | apply QQw_2026 | apply QQw_2027 | apply QQw_2028 | apply QQw_2029 | apply QQw_2030 | apply QQw_2031 | apply QQw_2032 | apply QQw_2033 | apply QQw_2034 | apply QQw_2035 | apply QQw_2048 | apply QQw_2049 | apply QQw_2050 | apply QQw_2051 | apply QQw_2052 | apply QQw_2053 | apply QQw_2054 | apply QQw_809 | apply QQw_810 | apply QQw_811 | apply QQw_812 | apply QQw_813 | apply QQ_J | refine QQ_n (by assumption) ?_ | refine QQ_sm (by assumption) (by decide) (by decide +kernel) ?_)) (by omega)) (by decide) (by decide) ⟨Nat.zero_le _, Nat.zero_le _⟩ (Nat.le_of_ble_eq_true rfl) (fun x238 l238 u238 hp238 => ?_)
        have hq238 := hp238
        try simp only [zuI_1, zuI_2, zuJ_1, zuJ_2, zuJ_3, zuP_1, zuP_2, zuP_3, zuC_1, zuC_2, reduceIte, Nat.reduceEqDiff, false_and, and_false, true_and, and_true, and_self, or_true, true_or, or_false, false_or] at hq238
        have hl238 : (x238 = 0 ↔ 0 < wL W p s) ∧ (x238 = 0 ∨ x238 = 1) := by rw [hq238]; exact wLie_b (by simp (disch := decide) only [up_f, up_eq]) hp hs
        refine zs_if_ne (tgt := 261) (pc := 241) C dX7_grindOne_241 (by decide) (fun h241 => ?_) (fun h241 => ?_)
        · skip
          refine zs_aload_n (pc := 261) C dX7_grindOne_261 rfl ?_
          refine zs_getf (pc := 262) C dX7_grindOne_262 w_X7_28 f_8_5 (by decide) ?_
          refine zs_iload_n (pc := 265) C dX7_grindOne_265 rfl ?_
          refine zs_dup2 (pc := 266) C dX7_grindOne_266 ?_
          refine zs_iald (r := 2051) (pc := 267) C dX7_grindOne_267 a_51 (by decide) (by omega) rfl (r_2051 _) (fun v267 e267 l267 u267 => ?_)
          try simp only [zuI_1, zuI_2, zuJ_1, zuJ_2, zuJ_3, zuP_1, zuP_2, zuP_3, zuC_1, zuC_2, reduceIte, Nat.reduceEqDiff, false_and, and_false, true_and, and_true, and_self, or_true, true_or, or_false, false_or] at e267
          try simp only [QQ_2051 h218_2] at e267
          try simp (disch := decide) only [up_f, up_fn] at e267
          try subst v267
          refine zs_iconst (pc := 268) C dX7_grindOne_268 (by decide) ?_
          first | refine zs_iadd (pc := 269) C dX7_grindOne_269 (by omega) ?_ | refine zs_iaddF (pc := 269) C dX7_grindOne_269 (fun z269 hz2691 hz2692 => ?_)
          refine zs_iast (r := 2051) (pc := 270) C dX7_grindOne_270 a_51 (by decide) (by omega) rfl (r_2051 _) (by omega) ?_
          exact zs_vret (pc := 271) C hr hlk dX7_grindOne_271 ⟨by repeat (first | exact zsm_rf | assumption | refine zsm_C (by decide) ?_ | refine zsm_I (by decide) ?_ | refine zsm_J ?_ | refine zsm_c (by assumption) (by decide) ?_), (by unfold wGrind wGr1 wSack; rw [if_pos hcan, hlw, ← h218_0]; first | (rw [if_pos (show 0 < W 12 (p * 4 + s).toNat by omega)]; with_reducible repeat (first | assumption | apply QQw_510 | apply QQw_2026 | apply QQw_2027 | apply QQw_2028 | apply QQw_2029 | apply QQw_2030 | apply QQw_2031 | apply QQw_2032 | apply QQw_2033 | apply QQw_2034 | apply QQw_2035 | apply QQw_2048 | apply QQw_2049 | apply QQw_2050 | apply QQw_2051 | apply QQw_2052 | apply QQw_2053 | apply QQw_2054 | apply QQw_809 | apply QQw_810 | apply QQw_811 | apply QQw_812 | apply QQw_813 | apply QQ_J | refine QQ_n (by assumption) ?_ | refine QQ_sm (by assumption) (by decide) (by decide +kernel) ?_)) | (rw [if_neg (show ¬ 0 < W 12 (p * 4 + s).toNat by omega)]; with_reducible repeat (first | assumption | apply QQw_510 | apply QQw_2026 | apply QQw_2027 | apply QQw_2028 | apply QQw_2029 | apply QQw_2030 | apply QQw_2031 | apply QQw_2032 | apply QQw_2033 | apply QQw_2034 | apply QQw_2035 | apply QQw_2048 | apply QQw_2049 | apply QQw_2050 | apply QQw_2051 | apply QQw_2052 | apply QQw_2053 | apply QQw_2054 | apply QQw_809 | apply QQw_810 | apply QQw_811 | apply QQw_812 | apply QQw_813 | apply QQ_J | refine QQ_n (by assumption) ?_ | refine QQ_sm (by assumption) (by decide) (by decide +kernel) ?_)))⟩
        · skip
          refine zs_aload_n (pc := 244) C dX7_grindOne_244 rfl ?_
          refine zs_getf (pc := 245) C dX7_grindOne_245 w_X7_22 f_8_3 (by decide) ?_
          refine zs_iload_n (pc := 248) C dX7_grindOne_248 rfl ?_
          refine zs_iconst (pc := 249) C dX7_grindOne_249 (by decide) ?_
          first | refine zs_imul (pc := 250) C dX7_grindOne_250 (by omega) ?_ | refine zs_imulF (pc := 250) C dX7_grindOne_250 (fun z250 hz2501 hz2502 => ?_)
          refine zs_iload_n (pc := 251) C dX7_grindOne_251 rfl ?_
          first | refine zs_iadd (pc := 252) C dX7_grindOne_252 (by omega) ?_ | refine zs_iaddF (pc := 252) C dX7_grindOne_252 (fun z252 hz2521 hz2522 => ?_)
          refine zs_dup2 (pc := 253) C dX7_grindOne_253 ?_
          refine zs_iald (r := 2049) (pc := 254) C dX7_grindOne_254 a_49 (by decide) (by omega) rfl (r_2049 _) (fun v254 e254 l254 u254 => ?_)
          try simp only [zuI_1, zuI_2, zuJ_1, zuJ_2, zuJ_3, zuP_1, zuP_2, zuP_3, zuC_1, zuC_2, reduceIte, Nat.reduceEqDiff, false_and, and_false, true_and, and_true, and_self, or_true, true_or, or_false, false_or] at e254
          try simp only [QQ_2049 h218_2] at e254
          try simp (disch := decide) only [up_f, up_fn] at e254
          try subst v254
          refine zs_iconst (pc := 255) C dX7_grindOne_255 (by decide) ?_
          first | refine zs_isub (pc := 256) C dX7_grindOne_256 (by omega) ?_ | refine zs_isubF (pc := 256) C dX7_grindOne_256 (fun z256 hz2561 hz2562 => ?_)
          refine zs_iast (r := 2049) (pc := 257) C dX7_grindOne_257 a_49 (by decide) (by omega) rfl (r_2049 _) (by omega) ?_
          refine zs_goto (tgt := 271) (pc := 258) C dX7_grindOne_258 (by decide) ?_
          exact zs_vret (pc := 271) C hr hlk dX7_grindOne_271 ⟨by repeat (first | exact zsm_rf | assumption | refine zsm_C (by decide) ?_ | refine zsm_I (by decide) ?_ | refine zsm_J ?_ | refine zsm_c (by assumption) (by decide) ?_), (by unfold wGrind wGr1 wSack; rw [if_pos hcan, hlw, ← h218_0]; first | (rw [if_pos (show 0 < W 12 (p * 4 + s).toNat by omega)]; with_reducible repeat (first | assumption | apply QQw_510 | apply QQw_2026 | apply QQw_2027 | apply QQw_2028 | apply QQw_2029 | apply QQw_2030 | apply QQw_2031 | apply QQw_2032 | apply QQw_2033 | apply QQw_2034 | apply QQw_2035 | apply QQw_2048 | apply QQw_2049 | apply QQw_2050 | apply QQw_2051 | apply QQw_2052 | apply QQw_2053 | apply QQw_2054 | apply QQw_809 | apply QQw_810 | apply QQw_811 | apply QQw_812 | apply QQw_813 | apply QQ_J | refine QQ_n (by assumption) ?_ | refine QQ_sm (by assumption) (by decide) (by decide +kernel) ?_)) | (rw [if_neg (show ¬ 0 < W 12 (p * 4 + s).toNat by omega)]; with_reducible repeat (first | assumption | apply QQw_510 | apply QQw_2026 | apply QQw_2027 | apply QQw_2028 | apply QQw_2029 | apply QQw_2030 | apply QQw_2031 | apply QQw_2032 | apply QQw_2033 | apply QQw_2034 | apply QQw_2035 | apply QQw_2048 | apply QQw_2049 | apply QQw_2050 | apply QQw_2051 | apply QQw_2052 | apply QQw_2053 | apply QQw_2054 | apply QQw_809 | apply QQw_810 | apply QQw_811 | apply QQw_812 | apply QQw_813 | apply QQ_J | refine QQ_n (by assumption) ?_ | refine QQ_sm (by assumption) (by decide) (by decide +kernel) ?_)))⟩
      refine zs_if_eq (tgt := 214) (pc := 194) C dX7_grindOne_194 (by decide) (fun h194 => ?_) (fun h194 => ?_)
      · skip
        refine zs_aload_n (pc := 214) C dX7_grindOne_214 rfl ?_
        refine zs_geti (r := 811) (pc := 215) C dX7_grindOne_215 w_X7_79 f_8_11 rfl (r_811 0) (fun v215 e215 l215 u215 => ?_)
        try simp only [QQ_811 h192_1] at e215
        try simp (disch := decide) only [up_f, up_fn] at e215
        try subst v215
        exact zs_wk (J218 _ _ (by split <;> first | omega | (exfalso; omega)) (by repeat (first | exact zsm_rf | assumption | refine zsm_C (by decide) ?_ | refine zsm_I (by decide) ?_ | refine zsm_J ?_ | refine zsm_c (by assumption) (by decide) ?_)) (by first | exact hZ204b | exact h192_1)) (zwk_s rfl (zwk_s rfl (zwk_s rfl (zwk_s rfl (zwk_s rfl zwk_0)))))
      · skip
        refine zs_ldc (n := 99999) (pc := 197) C dX7_grindOne_197 q_X7_190 (by decide) (by decide) ?_
        refine zs_aload_n (pc := 199) C dX7_grindOne_199 rfl ?_
        refine zs_geti (r := 811) (pc := 200) C dX7_grindOne_200 w_X7_79 f_8_11 rfl (r_811 0) (fun v200 e200 l200 u200 => ?_)
        try simp only [QQ_811 h192_1] at e200
        try simp (disch := decide) only [up_f, up_fn] at e200
        try subst v200
        refine zs_aload_n (pc := 203) C dX7_grindOne_203 rfl ?_
        refine zVi0 (pc := 204) C dX7_grindOne_204 v_X7_191 (c_X7_wearHereK (nm := wNm A W p s) hX h192_1 hT.2.2.2.2.2.2 h192_2 (wNm_in hT hW hp hs hps)) (by decide) (by decide) ⟨Nat.zero_le _, Nat.zero_le _⟩ (Nat.le_of_ble_eq_true rfl) (fun x204 G204 l204 u204 hp204 => ?_)
        obtain ⟨hz204, hq204⟩ := hp204
        have hx204 : x204 = wWear A W p s := hq204
        have hZ204b := QQ_n hz204 h192_1
        first | refine zs_iadd (pc := 207) C dX7_grindOne_207 (by omega) ?_ | refine zs_iaddF (pc := 207) C dX7_grindOne_207 (fun z207 hz2071 hz2072 => ?_)
        refine zs_minI (pc := 208) C dX7_grindOne_208 s_X7_149 (by decide) (Nat.le_of_ble_eq_true rfl) ⟨Nat.zero_le _, Nat.zero_le _⟩ (fun z208 hz208 => ?_)
        refine zs_goto (tgt := 218) (pc := 211) C dX7_grindOne_211 (by decide) ?_
        exact zs_wk (J218 _ _ (by split <;> first | omega | (exfalso; omega)) (by repeat (first | exact zsm_rf | assumption | refine zsm_C (by decide) ?_ | refine zsm_I (by decide) ?_ | refine zsm_J ?_ | refine zsm_c (by assumption) (by decide) ?_)) (by first | exact hZ204b | exact h192_1)) (zwk_s rfl (zwk_s rfl (zwk_s rfl (zwk_s rfl (zwk_s rfl zwk_0)))))
    refine zs_getf (pc := 9) C dX7_grindOne_9 w_X7_12 f_8_1 (by decide) ?_
    refine zs_geti (r := 510) (pc := 12) C dX7_grindOne_12 w_X7_48 f_5_10 rfl (r_510 0) (fun v12 e12 l12 u12 => ?_)
    try simp only [QQ_510 hZ] at e12
    try simp (disch := decide) only [up_f, up_fn] at e12
    try subst v12
    refine zs_istore (pc := 15) C dX7_grindOne_15 (by decide) ?_
    dsimp only [zset, zclr, znone]
    refine zs_aload_n (pc := 17) C dX7_grindOne_17 rfl ?_
    refine zs_iload_n (pc := 18) C dX7_grindOne_18 rfl ?_
    refine zs_iload_n (pc := 19) C dX7_grindOne_19 rfl ?_
    refine zVv2 (pc := 20) C dX7_grindOne_20 v_X7_122 (c_X7_setNamesK hX hZ hW hp hs) (by decide) (by decide) ⟨Nat.zero_le _, Nat.zero_le _⟩ (Nat.le_of_ble_eq_true rfl) (fun G20 hp20 => ?_)
    obtain ⟨hz20, hq20⟩ := hp20
    first | have hZ20 := QQ_n hz20 hZ | have hZ20 := QQ_n hz20 hZ1
    refine zs_aload_n (pc := 23) C dX7_grindOne_23 rfl ?_
    refine zs_getf (pc := 24) C dX7_grindOne_24 w_X7_12 f_8_1 (by decide) ?_
    refine zs_getf (pc := 27) C dX7_grindOne_27 w_X7_144 f_5_0 (by decide) ?_
    refine zs_iload (pc := 30) C dX7_grindOne_30 rfl ?_
    refine zs_iload_n (pc := 32) C dX7_grindOne_32 rfl ?_
    refine zs_iast (r := 2026) (pc := 33) C dX7_grindOne_33 a_26 (by decide) (by omega) rfl (r_2026 _) (by omega) ?_
    refine zs_aload_n (pc := 34) C dX7_grindOne_34 rfl ?_
    refine zs_getf (pc := 35) C dX7_grindOne_35 w_X7_12 f_8_1 (by decide) ?_
    refine zs_getf (pc := 38) C dX7_grindOne_38 w_X7_154 f_5_1 (by decide) ?_
    refine zs_iload (pc := 41) C dX7_grindOne_41 rfl ?_
    refine zs_iload_n (pc := 43) C dX7_grindOne_43 rfl ?_
    refine zs_iast (r := 2027) (pc := 44) C dX7_grindOne_44 a_27 (by decide) (by omega) rfl (r_2027 _) (by omega) ?_
    refine zs_aload_n (pc := 45) C dX7_grindOne_45 rfl ?_
    refine zs_getf (pc := 46) C dX7_grindOne_46 w_X7_12 f_8_1 (by decide) ?_
    refine zs_getf (pc := 49) C dX7_grindOne_49 w_X7_161 f_5_2 (by decide) ?_
    refine zs_iload (pc := 52) C dX7_grindOne_52 rfl ?_
    refine zs_aload_n (pc := 54) C dX7_grindOne_54 rfl ?_
    refine zs_getd (r := 800) (pc := 55) C dX7_grindOne_55 w_X7_40 f_8_0 (by decide) rfl (fun v55 e55 t55 => ?_)
    try simp only [hz20.2, zuI_1, zuI_2, zuJ_1, zuJ_2, zuJ_3, zuP_1, zuP_2, zuP_3, zuC_1, zuC_2, reduceIte, Nat.reduceEqDiff, false_and, and_false, true_and, and_true, and_self, or_true, true_or, or_false, false_or] at e55
    rw [hI] at e55
    subst v55
    refine zs_iconst (pc := 58) C dX7_grindOne_58 (by decide) ?_
    refine zs_iload_n (pc := 59) C dX7_grindOne_59 rfl ?_
    refine zVi2 (pc := 60) C dX7_grindOne_60 v_X7_132 (c_X5_finenessK (nm := wNm A W p s) hX ((show QQ Γ w t A (up (up W 1 (W 0 0).toNat p) 2 (W 0 0).toNat s) _ from (by with_reducible repeat (first | assumption | apply QQw_510 | apply QQw_2026 | apply QQw_2027 | apply QQw_2028 | apply QQw_2029 | apply QQw_2030 | apply QQw_2031 | apply QQw_2032 | apply QQw_2033 | apply QQw_2034 | apply QQw_2035 | apply QQw_2048 | apply QQw_2049 | apply QQw_2050 | apply QQw_2051 | apply QQw_2052 | apply QQw_2053 | apply QQw_2054 | apply QQw_809 | apply QQw_810 | apply QQw_811 | apply QQw_812 | apply QQw_813 | apply QQ_J | refine QQ_n (by assumption) ?_ | refine QQ_sm (by assumption) (by decide) (by decide +kernel) ?_)))).2.1 hT.2.2.2.2.2.2 (by omega) hq20 (wNm_in hT hW hp hs hps) hs) (by decide) (by decide) ⟨Nat.zero_le _, Nat.zero_le _⟩ (Nat.le_of_ble_eq_true rfl) (fun x60 G60 l60 u60 hp60 => ?_)
    obtain ⟨hz60, hq60⟩ := hp60
    try simp only [zuI_1, zuI_2, zuJ_1, zuJ_2, zuJ_3, zuP_1, zuP_2, zuP_3, zuC_1, zuC_2, reduceIte, Nat.reduceEqDiff, false_and, and_false, true_and, and_true, and_self, or_true, true_or, or_false, false_or] at hq60
    skip
    obtain ⟨hx60, hN60⟩ := hq60
    have hx60b : x60 = wFine A W p s := hx60
    subst hx60b
    have hZ60 : QQ Γ w t A (up (up W 1 (W 0 0).toNat p) 2 (W 0 0).toNat s) G60 := QQ_n hz60 (by with_reducible repeat (first | assumption | apply QQw_510 | apply QQw_2026 | apply QQw_2027 | apply QQw_2028 | apply QQw_2029 | apply QQw_2030 | apply QQw_2031 | apply QQw_2032 | apply QQw_2033 | apply QQw_2034 | apply QQw_2035 | apply QQw_2048 | apply QQw_2049 | apply QQw_2050 | apply QQw_2051 | apply QQw_2052 | apply QQw_2053 | apply QQw_2054 | apply QQw_809 | apply QQw_810 | apply QQw_811 | apply QQw_812 | apply QQw_813 | apply QQ_J | refine QQ_n (by assumption) ?_ | refine QQ_sm (by assumption) (by decide) (by decide +kernel) ?_))
    have hn60 : ∀ j : Nat, j < 7 → G60.2.1 2018 (Γ.2.1 (Γ.2.1 t 0) 4) j = wNm A W p s j := fun j hj => (hN60 _ j).trans (hq20 j hj)
    refine zs_iast (r := 2028) (pc := 63) C dX7_grindOne_63 a_28 (by decide) (by omega) rfl (r_2028 _) (by omega) ?_
    refine zs_aload_n (pc := 64) C dX7_grindOne_64 rfl ?_
    refine zs_getf (pc := 65) C dX7_grindOne_65 w_X7_12 f_8_1 (by decide) ?_
    refine zs_getf (pc := 68) C dX7_grindOne_68 w_X7_174 f_5_3 (by decide) ?_
    refine zs_iload (pc := 71) C dX7_grindOne_71 rfl ?_
    refine zs_aload_n (pc := 73) C dX7_grindOne_73 rfl ?_
    refine zVip0 (pc := 74) C dX7_grindOne_74 v_X7_177 (c_X7_portionK hX (by with_reducible repeat (first | assumption | apply QQw_510 | apply QQw_2026 | apply QQw_2027 | apply QQw_2028 | apply QQw_2029 | apply QQw_2030 | apply QQw_2031 | apply QQw_2032 | apply QQw_2033 | apply QQw_2034 | apply QQw_2035 | apply QQw_2048 | apply QQw_2049 | apply QQw_2050 | apply QQw_2051 | apply QQw_2052 | apply QQw_2053 | apply QQw_2054 | apply QQw_809 | apply QQw_810 | apply QQw_811 | apply QQw_812 | apply QQw_813 | apply QQ_J | refine QQ_n (by assumption) ?_ | refine QQ_sm (by assumption) (by decide) (by decide +kernel) ?_))) (by decide) (by decide) ⟨Nat.zero_le _, Nat.zero_le _⟩ (Nat.le_of_ble_eq_true rfl) (fun x74 l74 u74 hp74 => ?_)
    have hq74 := hp74
    try simp only [zuI_1, zuI_2, zuJ_1, zuJ_2, zuJ_3, zuP_1, zuP_2, zuP_3, zuC_1, zuC_2, reduceIte, Nat.reduceEqDiff, false_and, and_false, true_and, and_true, and_self, or_true, true_or, or_false, false_or] at hq74
    have hx74 : x74 = wPort A W := hq74.trans (wPort_cg (by simp (disch := decide) only [up_f]))
    subst hx74
    refine zs_iast (r := 2029) (pc := 77) C dX7_grindOne_77 a_29 (by decide) (by omega) rfl (r_2029 _) (by omega) ?_
    refine zs_aload_n (pc := 78) C dX7_grindOne_78 rfl ?_
    refine zs_getf (pc := 79) C dX7_grindOne_79 w_X7_12 f_8_1 (by decide) ?_
    refine zs_getf (pc := 82) C dX7_grindOne_82 w_X7_181 f_5_4 (by decide) ?_
    refine zs_iload (pc := 85) C dX7_grindOne_85 rfl ?_
    refine zs_aload_n (pc := 87) C dX7_grindOne_87 rfl ?_
    refine zVip0 (pc := 88) C dX7_grindOne_88 v_X7_177 (c_X7_portionK hX (by with_reducible repeat (first | assumption | apply QQw_510 | apply QQw_2026 | apply QQw_2027 | apply QQw_2028 | apply QQw_2029 | apply QQw_2030 | apply QQw_2031 | apply QQw_2032 | apply QQw_2033 | apply QQw_2034 | apply QQw_2035 | apply QQw_2048 | apply QQw_2049 | apply QQw_2050 | apply QQw_2051 | apply QQw_2052 | apply QQw_2053 | apply QQw_2054 | apply QQw_809 | apply QQw_810 | apply QQw_811 | apply QQw_812 | apply QQw_813 | apply QQ_J | refine QQ_n (by assumption) ?_ | refine QQ_sm (by assumption) (by decide) (by decide +kernel) ?_))) (by decide) (by decide) ⟨Nat.zero_le _, Nat.zero_le _⟩ (Nat.le_of_ble_eq_true rfl) (fun x88 l88 u88 hp88 => ?_)
    have hq88 := hp88
    try simp only [zuI_1, zuI_2, zuJ_1, zuJ_2, zuJ_3, zuP_1, zuP_2, zuP_3, zuC_1, zuC_2, reduceIte, Nat.reduceEqDiff, false_and, and_false, true_and, and_true, and_self, or_true, true_or, or_false, false_or] at hq88
    have hx88 : x88 = wPort A W := hq88.trans (wPort_cg (by simp (disch := decide) only [up_f]))
    subst hx88
    refine zs_iast (r := 2030) (pc := 91) C dX7_grindOne_91 a_30 (by decide) (by omega) rfl (r_2030 _) (by omega) ?_
    refine zs_aload_n (pc := 92) C dX7_grindOne_92 rfl ?_
    refine zs_getf (pc := 93) C dX7_grindOne_93 w_X7_12 f_8_1 (by decide) ?_
    refine zs_getf (pc := 96) C dX7_grindOne_96 w_X7_135 f_5_5 (by decide) ?_
    refine zs_iload (pc := 99) C dX7_grindOne_99 rfl ?_
    refine zs_aload_n (pc := 101) C dX7_grindOne_101 rfl ?_
    refine zs_getf (pc := 102) C dX7_grindOne_102 w_X7_25 f_8_4 (by decide) ?_
    refine zs_iload_n (pc := 105) C dX7_grindOne_105 rfl ?_
    refine zs_iald (r := 2050) (pc := 106) C dX7_grindOne_106 a_50 (by decide) (by omega) rfl (r_2050 _) (fun v106 e106 l106 u106 => ?_)
    try simp only [zuI_1, zuI_2, zuJ_1, zuJ_2, zuJ_3, zuP_1, zuP_2, zuP_3, zuC_1, zuC_2, reduceIte, Nat.reduceEqDiff, false_and, and_false, true_and, and_true, and_self, or_true, true_or, or_false, false_or] at e106
    try simp only [QQ_2050 hZ60, QQ_2050 hZ20, QQ_2050 hZ] at e106
    try simp (disch := decide) only [up_f, up_fn] at e106
    try subst v106
    refine zs_iast (r := 2031) (pc := 107) C dX7_grindOne_107 a_31 (by decide) (by omega) rfl (r_2031 _) (by omega) ?_
    refine zs_aload_n (pc := 108) C dX7_grindOne_108 rfl ?_
    refine zs_getf (pc := 109) C dX7_grindOne_109 w_X7_12 f_8_1 (by decide) ?_
    refine zs_getf (pc := 112) C dX7_grindOne_112 w_X7_136 f_5_6 (by decide) ?_
    refine zs_iload (pc := 115) C dX7_grindOne_115 rfl ?_
    refine zs_aload_n (pc := 117) C dX7_grindOne_117 rfl ?_
    refine zs_geti (r := 811) (pc := 118) C dX7_grindOne_118 w_X7_79 f_8_11 rfl (r_811 0) (fun v118 e118 l118 u118 => ?_)
    try simp only [zuI_1, zuI_2, zuJ_1, zuJ_2, zuJ_3, zuP_1, zuP_2, zuP_3, zuC_1, zuC_2, reduceIte, Nat.reduceEqDiff, false_and, and_false, true_and, and_true, and_self, or_true, true_or, or_false, false_or] at e118
    try simp only [QQ_811 hZ60, QQ_811 hZ20, QQ_811 hZ] at e118
    try simp (disch := decide) only [up_f, up_fn] at e118
    try subst v118
    refine zs_iast (r := 2032) (pc := 121) C dX7_grindOne_121 a_32 (by decide) (by omega) rfl (r_2032 _) (by omega) ?_
    refine zs_aload_n (pc := 122) C dX7_grindOne_122 rfl ?_
    refine zs_getf (pc := 123) C dX7_grindOne_123 w_X7_12 f_8_1 (by decide) ?_
    refine zs_getf (pc := 126) C dX7_grindOne_126 w_X7_138 f_5_7 (by decide) ?_
    refine zs_iload (pc := 129) C dX7_grindOne_129 rfl ?_
    refine zs_aload_n (pc := 131) C dX7_grindOne_131 rfl ?_
    refine zs_iload_n (pc := 132) C dX7_grindOne_132 rfl ?_
    refine zVip1 (pc := 133) C dX7_grindOne_133 v_X7_109 (c_X7_prideOfK hX (by with_reducible repeat (first | assumption | apply QQw_510 | apply QQw_2026 | apply QQw_2027 | apply QQw_2028 | apply QQw_2029 | apply QQw_2030 | apply QQw_2031 | apply QQw_2032 | apply QQw_2033 | apply QQw_2034 | apply QQw_2035 | apply QQw_2048 | apply QQw_2049 | apply QQw_2050 | apply QQw_2051 | apply QQw_2052 | apply QQw_2053 | apply QQw_2054 | apply QQw_809 | apply QQw_810 | apply QQw_811 | apply QQw_812 | apply QQw_813 | apply QQ_J | refine QQ_n (by assumption) ?_ | refine QQ_sm (by assumption) (by decide) (by decide +kernel) ?_)) (by intro j hj; simp (disch := decide) only [up_f]; exact hWL j hj) hp) (by decide) (by decide) ⟨Nat.zero_le _, Nat.zero_le _⟩ (Nat.le_of_ble_eq_true rfl) (fun x133 l133 u133 hp133 => ?_)
    have hq133 := hp133
    try simp only [zuI_1, zuI_2, zuJ_1, zuJ_2, zuJ_3, zuP_1, zuP_2, zuP_3, zuC_1, zuC_2, reduceIte, Nat.reduceEqDiff, false_and, and_false, true_and, and_true, and_self, or_true, true_or, or_false, false_or] at hq133
    have hx133 : x133 = wPr W p := hq133.trans (wPr_cg (by simp (disch := decide) only [up_fn]))
    subst hx133
    refine zs_iast (r := 2033) (pc := 136) C dX7_grindOne_136 a_33 (by decide) (by omega) rfl (r_2033 _) (by omega) ?_
    refine zs_aload_n (pc := 137) C dX7_grindOne_137 rfl ?_
    refine zs_getf (pc := 138) C dX7_grindOne_138 w_X7_12 f_8_1 (by decide) ?_
    refine zs_getf (pc := 141) C dX7_grindOne_141 w_X7_147 f_5_8 (by decide) ?_
    refine zs_iload (pc := 144) C dX7_grindOne_144 rfl ?_
    refine zs_aload_n (pc := 146) C dX7_grindOne_146 rfl ?_
    refine zs_geti (r := 809) (pc := 147) C dX7_grindOne_147 w_X7_69 f_8_9 rfl (r_809 0) (fun v147 e147 l147 u147 => ?_)
    try simp only [zuI_1, zuI_2, zuJ_1, zuJ_2, zuJ_3, zuP_1, zuP_2, zuP_3, zuC_1, zuC_2, reduceIte, Nat.reduceEqDiff, false_and, and_false, true_and, and_true, and_self, or_true, true_or, or_false, false_or] at e147
    try simp only [QQ_809 hZ60, QQ_809 hZ20, QQ_809 hZ] at e147
    try simp (disch := decide) only [up_f, up_fn] at e147
    try subst v147
    refine zs_iast (r := 2034) (pc := 150) C dX7_grindOne_150 a_34 (by decide) (by omega) rfl (r_2034 _) (by omega) ?_
    refine zs_aload_n (pc := 151) C dX7_grindOne_151 rfl ?_
    refine zs_getf (pc := 152) C dX7_grindOne_152 w_X7_12 f_8_1 (by decide) ?_
    refine zs_getf (pc := 155) C dX7_grindOne_155 w_X7_184 f_5_9 (by decide) ?_
    refine zs_iload (pc := 158) C dX7_grindOne_158 rfl ?_
    refine zs_aload_n (pc := 160) C dX7_grindOne_160 rfl ?_
    refine zs_iload_n (pc := 161) C dX7_grindOne_161 rfl ?_
    refine zVip1 (pc := 162) C dX7_grindOne_162 v_X7_187 (c_X7_leftBitsOfK hX (by with_reducible repeat (first | assumption | apply QQw_510 | apply QQw_2026 | apply QQw_2027 | apply QQw_2028 | apply QQw_2029 | apply QQw_2030 | apply QQw_2031 | apply QQw_2032 | apply QQw_2033 | apply QQw_2034 | apply QQw_2035 | apply QQw_2048 | apply QQw_2049 | apply QQw_2050 | apply QQw_2051 | apply QQw_2052 | apply QQw_2053 | apply QQw_2054 | apply QQw_809 | apply QQw_810 | apply QQw_811 | apply QQw_812 | apply QQw_813 | apply QQ_J | refine QQ_n (by assumption) ?_ | refine QQ_sm (by assumption) (by decide) (by decide +kernel) ?_)) hp) (by decide) (by decide) ⟨Nat.zero_le _, Nat.zero_le _⟩ (Nat.le_of_ble_eq_true rfl) (fun x162 l162 u162 hp162 => ?_)
    have hq162 := hp162
    try simp only [zuI_1, zuI_2, zuJ_1, zuJ_2, zuJ_3, zuP_1, zuP_2, zuP_3, zuC_1, zuC_2, reduceIte, Nat.reduceEqDiff, false_and, and_false, true_and, and_true, and_self, or_true, true_or, or_false, false_or] at hq162
    have hx162 : x162 = wBits W p := hq162.trans (wBits_cg (by simp (disch := decide) only [up_fn]))
    subst hx162
    refine zs_iast (r := 2035) (pc := 165) C dX7_grindOne_165 a_35 (by decide) (by omega) rfl (r_2035 _) (by omega) ?_
    refine zs_aload_n (pc := 166) C dX7_grindOne_166 rfl ?_
    refine zs_getf (pc := 167) C dX7_grindOne_167 w_X7_12 f_8_1 (by decide) ?_
    refine zs_dupa (pc := 170) C dX7_grindOne_170 ?_
    refine zs_geti (r := 510) (pc := 171) C dX7_grindOne_171 w_X7_48 f_5_10 rfl (r_510 0) (fun v171 e171 l171 u171 => ?_)
    try simp only [zuI_1, zuI_2, zuJ_1, zuJ_2, zuJ_3, zuP_1, zuP_2, zuP_3, zuC_1, zuC_2, reduceIte, Nat.reduceEqDiff, false_and, and_false, true_and, and_true, and_self, or_true, true_or, or_false, false_or] at e171
    try simp only [QQ_510 hZ60, QQ_510 hZ20, QQ_510 hZ] at e171
    try simp (disch := decide) only [up_f, up_fn] at e171
    try subst v171
    refine zs_iconst (pc := 174) C dX7_grindOne_174 (by decide) ?_
    first | refine zs_iadd (pc := 175) C dX7_grindOne_175 (by omega) ?_ | refine zs_iaddF (pc := 175) C dX7_grindOne_175 (fun z175 hz1751 hz1752 => ?_)
    refine zs_puti (r := 510) (pc := 176) C dX7_grindOne_176 w_X7_48 f_5_10 rfl (r_510 0) (by omega) ?_
    refine zs_aload_n (pc := 179) C dX7_grindOne_179 rfl ?_
    refine zs_dupa (pc := 180) C dX7_grindOne_180 ?_
    refine zs_geti (r := 810) (pc := 181) C dX7_grindOne_181 w_X7_75 f_8_10 rfl (r_810 0) (fun v181 e181 l181 u181 => ?_)
    try simp only [zuI_1, zuI_2, zuJ_1, zuJ_2, zuJ_3, zuP_1, zuP_2, zuP_3, zuC_1, zuC_2, reduceIte, Nat.reduceEqDiff, false_and, and_false, true_and, and_true, and_self, or_true, true_or, or_false, false_or] at e181
    try simp only [QQ_810 hZ60, QQ_810 hZ20, QQ_810 hZ] at e181
    try simp (disch := decide) only [up_f, up_fn] at e181
    try subst v181
    refine zs_aload_n (pc := 184) C dX7_grindOne_184 rfl ?_
    refine zVip0 (pc := 185) C dX7_grindOne_185 v_X7_177 (c_X7_portionK hX (by with_reducible repeat (first | assumption | apply QQw_510 | apply QQw_2026 | apply QQw_2027 | apply QQw_2028 | apply QQw_2029 | apply QQw_2030 | apply QQw_2031 | apply QQw_2032 | apply QQw_2033 | apply QQw_2034 | apply QQw_2035 | apply QQw_2048 | apply QQw_2049 | apply QQw_2050 | apply QQw_2051 | apply QQw_2052 | apply QQw_2053 | apply QQw_2054 | apply QQw_809 | apply QQw_810 | apply QQw_811 | apply QQw_812 | apply QQw_813 | apply QQ_J | refine QQ_n (by assumption) ?_ | refine QQ_sm (by assumption) (by decide) (by decide +kernel) ?_))) (by decide) (by decide) ⟨Nat.zero_le _, Nat.zero_le _⟩ (Nat.le_of_ble_eq_true rfl) (fun x185 l185 u185 hp185 => ?_)
    have hq185 := hp185
    try simp only [zuI_1, zuI_2, zuJ_1, zuJ_2, zuJ_3, zuP_1, zuP_2, zuP_3, zuC_1, zuC_2, reduceIte, Nat.reduceEqDiff, false_and, and_false, true_and, and_true, and_self, or_true, true_or, or_false, false_or] at hq185
    have hx185 : x185 = wPort A W := hq185.trans (wPort_cg (by simp (disch := decide) only [up_f]))
    subst hx185
    first | refine zs_isub (pc := 188) C dX7_grindOne_188 (by omega) ?_ | refine zs_isubF (pc := 188) C dX7_grindOne_188 (fun z188 hz1881 hz1882 => ?_)
    refine zs_puti (r := 810) (pc := 189) C dX7_grindOne_189 w_X7_75 f_8_10 rfl (r_810 0) (by omega) ?_
    exact zs_wk (J192 _ (by repeat (first | exact zsm_rf | assumption | refine zsm_C (by decide) ?_ | refine zsm_I (by decide) ?_ | refine zsm_J ?_ | refine zsm_c (by assumption) (by decide) ?_)) (by with_reducible repeat (first | assumption | apply QQw_510 | apply QQw_2026 | apply QQw_2027 | apply QQw_2028 | apply QQw_2029 | apply QQw_2030 | apply QQw_2031 | apply QQw_2032 | apply QQw_2033 | apply QQw_2034 | apply QQw_2035 | apply QQw_2048 | apply QQw_2049 | apply QQw_2050 | apply QQw_2051 | apply QQw_2052 | apply QQw_2053 | apply QQw_2054 | apply QQw_809 | apply QQw_810 | apply QQw_811 | apply QQw_812 | apply QQw_813 | apply QQ_J | refine QQ_n (by assumption) ?_ | refine QQ_sm (by assumption) (by decide) (by decide +kernel) ?_)) (fun j hj => hn60 j hj)) (zwk_s rfl (zwk_s rfl (zwk_s rfl (zwk_s rfl (zwk_s rfl zwk_0)))))
  · skip
    exact zs_vret (pc := 7) C hr hlk dX7_grindOne_7 ⟨by repeat (first | exact zsm_rf | assumption | refine zsm_C (by decide) ?_ | refine zsm_I (by decide) ?_ | refine zsm_J ?_ | refine zsm_c (by assumption) (by decide) ?_), by unfold wGrind; rw [if_neg (fun q => by have := hq1.2.mpr q; omega)]; exact hZ⟩
