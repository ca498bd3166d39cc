set_option maxHeartbeats 4000000 in
set_option maxRecDepth 100000 in
theorem c_X3_readLineF {l : Launch} {Γ : zΓ} {G : zH} {w t : Nat} {b : Nat → Int} {n : Int} {N : Nat} {A : aS}  (hX : zXs Γ) (hZ : QC b n N Γ w t A G)  : zMet l Γ yX3_readLine cX3_readLine 1 none 5 [zr 4 w] G (zpv (fun G' => zsm [402, 403, 404, 405, 406, 407, 408, 409, 410, 411, 412, 413, 2025, 206, 207, 2014, 2015, 2016, 2017, 2036, 2037, 2038, 2039, 2040, 2041, 2042, 2043, 609, 610, 611, 612] G G' ∧ QC b n N Γ w t (sLine b n A) G')) := by
  have hI := QC_t hZ
  refine zMet_of RX3 hX (by decide) rfl (Nat.le_of_ble_eq_true rfl) ?_
  intro p e s m args below meth c C hr hlk
  show Z p l e (zrm 5) s m args below meth c Γ 1 0 0 (MQ below (zQc Γ (zpv (fun G' => zsm [402, 403, 404, 405, 406, 407, 408, 409, 410, 411, 412, 413, 2025, 206, 207, 2014, 2015, 2016, 2017, 2036, 2037, 2038, 2039, 2040, 2041, 2042, 2043, 609, 610, 611, 612] G G' ∧ QC b n N Γ w t (sLine b n A) G'))) args s 0 0 (zA Γ)) 0 [some (zr 4 w)] [] G
  have J181 : ∀ (G1 : zH) (A1 : aS), (zsm [402, 403, 404, 405, 406, 407, 408, 409, 410, 411, 412, 413, 2025, 206, 207, 2014, 2015, 2016, 2017, 2036, 2037, 2038, 2039, 2040, 2041, 2042, 2043, 609, 610, 611, 612] G G1) → (QC b n N Γ w t (A1) G1) → (sBody b n A = A1) → Z p l e (zrm 5) s m args below meth c Γ 1 0 0 (MQ below (zQc Γ (zpv (fun G' => zsm [402, 403, 404, 405, 406, 407, 408, 409, 410, 411, 412, 413, 2025, 206, 207, 2014, 2015, 2016, 2017, 2036, 2037, 2038, 2039, 2040, 2041, 2042, 2043, 609, 610, 611, 612] G G' ∧ QC b n N Γ w t (sLine b n A) G'))) args s 0 0 (zA Γ)) 181 [some (zr 4 w)] [] G1 := by
    intro G1 A1 h181_0 h181_1 h181_2
    refine zs_aload_n (pc := 181) C dX3_readLine_181 rfl ?_
    refine zs_bipush (pc := 182) C dX3_readLine_182 (by decide) (by decide) ?_
    refine zVip1 (pc := 184) C dX3_readLine_184 v_X3_117 (c_X3_isSignF hX (by repeat (first | assumption | apply QCw_407 | apply QCw_408 | apply QCw_406 | apply QCw_2037 | apply QCw_2036 | apply QCw_2038 | apply QCw_2039 | apply QCw_2040 | apply QCw_2041 | apply QCw_2042 | apply QCw_2043 | apply QCw_609 | apply QCw_610 | apply QCw_611 | apply QCw_612 | apply QCw_2016 | apply QCw_2017 | apply QCw_2014 | apply QCw_2015 | apply QCw_206 | apply QCw_207 | apply QCw_410 | apply QCw_411 | apply QCw_412 | apply QCw_413 | apply QCw_2025 | refine QC_g (by decide) ?_ | refine QC_sm (by assumption) (by decide) (by decide) ?_))) (by decide) (by decide) ⟨Nat.zero_le _, Nat.zero_le _⟩ (Nat.le_of_ble_eq_true rfl) (fun x184 l184 u184 hp184 => ?_)
    have hq184 := hp184
    refine zs_if_ne (tgt := 195) (pc := 187) C dX3_readLine_187 (by decide) (fun h187 => ?_) (fun h187 => ?_)
    · skip
      refine zs_aload_n (pc := 195) C dX3_readLine_195 rfl ?_
      refine zs_geti (r := 407) (pc := 196) C dX3_readLine_196 w_X3_38 f_4_7 rfl (r_407 0) (fun v196 e196 l196 u196 => ?_)
      try simp only [QC_407 h181_1] at e196
      try subst v196
      refine zs_if_ne (tgt := 206) (pc := 199) C dX3_readLine_199 (by decide) (fun h199 => ?_) (fun h199 => ?_)
      · skip
        exact zs_vret (pc := 206) C hr hlk dX3_readLine_206 ⟨by repeat (first | exact zsm_rf | assumption | refine zsm_C (by decide) ?_ | refine zsm_I (by decide) ?_ | refine zsm_J ?_ | refine zsm_c (by assumption) (by decide) ?_), by
              unfold sLine
              rw [h181_2]
              first
              | (have hS : sSemi b n A1 = A1 := if_pos (by omega)
                 rw [hS]; unfold sNumB; split <;> first | assumption | (exfalso; omega))
              | (have hS : sSemi b n A1 = sFail b n 1 A1 := if_neg (by omega)
                 rw [hS]; unfold sNumB; split <;> first | assumption | (exfalso; omega))⟩
      · skip
        refine zs_aload_n (pc := 202) C dX3_readLine_202 rfl ?_
        refine zVv0 (pc := 203) C dX3_readLine_203 v_X3_51 (c_X3_nextF hX (QN_of (by repeat (first | assumption | apply QCw_407 | apply QCw_408 | apply QCw_406 | apply QCw_2037 | apply QCw_2036 | apply QCw_2038 | apply QCw_2039 | apply QCw_2040 | apply QCw_2041 | apply QCw_2042 | apply QCw_2043 | apply QCw_609 | apply QCw_610 | apply QCw_611 | apply QCw_612 | apply QCw_2016 | apply QCw_2017 | apply QCw_2014 | apply QCw_2015 | apply QCw_206 | apply QCw_207 | apply QCw_410 | apply QCw_411 | apply QCw_412 | apply QCw_413 | apply QCw_2025 | refine QC_g (by decide) ?_ | refine QC_sm (by assumption) (by decide) (by decide) ?_)))) (by decide) (by decide) ⟨Nat.zero_le _, Nat.zero_le _⟩ (Nat.le_of_ble_eq_true rfl) (fun G203 hp203 => ?_)
        obtain ⟨hz203, hq203⟩ := hp203
        have hZ203 := hq203
        exact zs_vret (pc := 206) C hr hlk dX3_readLine_206 ⟨by repeat (first | exact zsm_rf | assumption | refine zsm_C (by decide) ?_ | refine zsm_I (by decide) ?_ | refine zsm_J ?_ | refine zsm_c (by assumption) (by decide) ?_), by
              unfold sLine
              rw [h181_2]
              first
              | (have hS : sSemi b n A1 = A1 := if_pos (by omega)
                 rw [hS]; unfold sNumB; split <;> first | assumption | (exfalso; omega))
              | (have hS : sSemi b n A1 = sFail b n 1 A1 := if_neg (by omega)
                 rw [hS]; unfold sNumB; split <;> first | assumption | (exfalso; omega))⟩
    · skip
      refine zs_aload_n (pc := 190) C dX3_readLine_190 rfl ?_
      refine zs_iconst (pc := 191) C dX3_readLine_191 (by decide) ?_
      refine zVv1 (pc := 192) C dX3_readLine_192 v_X3_114 (c_X3_failF hX (by repeat (first | assumption | apply QCw_407 | apply QCw_408 | apply QCw_406 | apply QCw_2037 | apply QCw_2036 | apply QCw_2038 | apply QCw_2039 | apply QCw_2040 | apply QCw_2041 | apply QCw_2042 | apply QCw_2043 | apply QCw_609 | apply QCw_610 | apply QCw_611 | apply QCw_612 | apply QCw_2016 | apply QCw_2017 | apply QCw_2014 | apply QCw_2015 | apply QCw_206 | apply QCw_207 | apply QCw_410 | apply QCw_411 | apply QCw_412 | apply QCw_413 | apply QCw_2025 | refine QC_g (by decide) ?_ | refine QC_sm (by assumption) (by decide) (by decide) ?_))) (by decide) (by decide) ⟨Nat.zero_le _, Nat.zero_le _⟩ (Nat.le_of_ble_eq_true rfl) (fun G192 hp192 => ?_)
      obtain ⟨hz192, hq192⟩ := hp192
      have hZ192 := hq192
      refine zs_aload_n (pc := 195) C dX3_readLine_195 rfl ?_
      refine zs_geti (r := 407) (pc := 196) C dX3_readLine_196 w_X3_38 f_4_7 rfl (r_407 0) (fun v196 e196 l196 u196 => ?_)
      try simp only [QC_407 hZ192, QC_407 h181_1] at e196
      try subst v196
      refine zs_if_ne (tgt := 206) (pc := 199) C dX3_readLine_199 (by decide) (fun h199 => ?_) (fun h199 => ?_)
      · skip
        exact zs_vret (pc := 206) C hr hlk dX3_readLine_206 ⟨by repeat (first | exact zsm_rf | assumption | refine zsm_C (by decide) ?_ | refine zsm_I (by decide) ?_ | refine zsm_J ?_ | refine zsm_c (by assumption) (by decide) ?_), by
              unfold sLine
              rw [h181_2]
              first
              | (have hS : sSemi b n A1 = A1 := if_pos (by omega)
                 rw [hS]; unfold sNumB; split <;> first | assumption | (exfalso; omega))
              | (have hS : sSemi b n A1 = sFail b n 1 A1 := if_neg (by omega)
                 rw [hS]; unfold sNumB; split <;> first | assumption | (exfalso; omega))⟩
      · skip
        refine zs_aload_n (pc := 202) C dX3_readLine_202 rfl ?_
        refine zVv0 (pc := 203) C dX3_readLine_203 v_X3_51 (c_X3_nextF hX (QN_of (by repeat (first | assumption | apply QCw_407 | apply QCw_408 | apply QCw_406 | apply QCw_2037 | apply QCw_2036 | apply QCw_2038 | apply QCw_2039 | apply QCw_2040 | apply QCw_2041 | apply QCw_2042 | apply QCw_2043 | apply QCw_609 | apply QCw_610 | apply QCw_611 | apply QCw_612 | apply QCw_2016 | apply QCw_2017 | apply QCw_2014 | apply QCw_2015 | apply QCw_206 | apply QCw_207 | apply QCw_410 | apply QCw_411 | apply QCw_412 | apply QCw_413 | apply QCw_2025 | refine QC_g (by decide) ?_ | refine QC_sm (by assumption) (by decide) (by decide) ?_)))) (by decide) (by decide) ⟨Nat.zero_le _, Nat.zero_le _⟩ (Nat.le_of_ble_eq_true rfl) (fun G203 hp203 => ?_)
        obtain ⟨hz203, hq203⟩ := hp203
        have hZ203 := hq203
        exact zs_vret (pc := 206) C hr hlk dX3_readLine_206 ⟨by repeat (first | exact zsm_rf | assumption | refine zsm_C (by decide) ?_ | refine zsm_I (by decide) ?_ | refine zsm_J ?_ | refine zsm_c (by assumption) (by decide) ?_), by
              unfold sLine
              rw [h181_2]
              first
              | (have hS : sSemi b n A1 = A1 := if_pos (by omega)
                 rw [hS]; unfold sNumB; split <;> first | assumption | (exfalso; omega))
              | (have hS : sSemi b n A1 = sFail b n 1 A1 := if_neg (by omega)
                 rw [hS]; unfold sNumB; split <;> first | assumption | (exfalso; omega))⟩
  refine zs_aload_n (pc := 0) C dX3_readLine_0 rfl ?_
  refine zs_geti (r := 405) (pc := 1) C dX3_readLine_1 w_X3_70 f_4_5 rfl (r_405 0) (fun v1 e1 l1 u1 => ?_)
  try simp only [QC_405 hZ] at e1
  try subst v1
  refine zs_name (fun y4 ey4 => ?_)
  rcases (show y4 = 0 ∨ y4 = 1 ∨ y4 = 2 ∨ y4 = 3 ∨ y4 = 4 ∨ y4 = 5 ∨ y4 = 6 ∨ y4 = 7 ∨ y4 = 8 ∨ y4 = 9 ∨ (y4 < 0 ∨ 9 < y4) by omega) with h4 | h4 | h4 | h4 | h4 | h4 | h4 | h4 | h4 | h4 | h4
  · skip
    refine zs_tabIn (pc := 4) (tgt := 60) C 0 dX3_readLine_4 h4 (by decide) rfl (by decide) ?_
    refine zs_aload_n (pc := 60) C dX3_readLine_60 rfl ?_
    refine zVv0 (pc := 61) C dX3_readLine_61 v_X3_76 (c_X3_readSinF hX (by repeat (first | assumption | apply QCw_407 | apply QCw_408 | apply QCw_406 | apply QCw_2037 | apply QCw_2036 | apply QCw_2038 | apply QCw_2039 | apply QCw_2040 | apply QCw_2041 | apply QCw_2042 | apply QCw_2043 | apply QCw_609 | apply QCw_610 | apply QCw_611 | apply QCw_612 | apply QCw_2016 | apply QCw_2017 | apply QCw_2014 | apply QCw_2015 | apply QCw_206 | apply QCw_207 | apply QCw_410 | apply QCw_411 | apply QCw_412 | apply QCw_413 | apply QCw_2025 | refine QC_g (by decide) ?_ | refine QC_sm (by assumption) (by decide) (by decide) ?_))) (by decide) (by decide) ⟨Nat.zero_le _, Nat.zero_le _⟩ (Nat.le_of_ble_eq_true rfl) (fun G61 hp61 => ?_)
    obtain ⟨hz61, hq61⟩ := hp61
    have hZ61 := hq61
    refine zs_goto (tgt := 181) (pc := 64) C dX3_readLine_64 (by decide) ?_
    exact zs_wk (J181 _ _ (by repeat (first | exact zsm_rf | assumption | refine zsm_C (by decide) ?_ | refine zsm_I (by decide) ?_ | refine zsm_J ?_ | refine zsm_c (by assumption) (by decide) ?_)) (by repeat (first | assumption | apply QCw_407 | apply QCw_408 | apply QCw_406 | apply QCw_2037 | apply QCw_2036 | apply QCw_2038 | apply QCw_2039 | apply QCw_2040 | apply QCw_2041 | apply QCw_2042 | apply QCw_2043 | apply QCw_609 | apply QCw_610 | apply QCw_611 | apply QCw_612 | apply QCw_2016 | apply QCw_2017 | apply QCw_2014 | apply QCw_2015 | apply QCw_206 | apply QCw_207 | apply QCw_410 | apply QCw_411 | apply QCw_412 | apply QCw_413 | apply QCw_2025 | refine QC_g (by decide) ?_ | refine QC_sm (by assumption) (by decide) (by decide) ?_)) (by unfold sBody; repeat (first | rw [if_pos (by omega)] | rw [if_neg (by omega)]))) (zwk_s rfl zwk_0)
  · skip
    refine zs_tabIn (pc := 4) (tgt := 67) C 1 dX3_readLine_4 h4 (by decide) rfl (by decide) ?_
    refine zs_aload_n (pc := 67) C dX3_readLine_67 rfl ?_
    refine zVv0 (pc := 68) C dX3_readLine_68 v_X3_79 (c_X3_readPersonF hX (by repeat (first | assumption | apply QCw_407 | apply QCw_408 | apply QCw_406 | apply QCw_2037 | apply QCw_2036 | apply QCw_2038 | apply QCw_2039 | apply QCw_2040 | apply QCw_2041 | apply QCw_2042 | apply QCw_2043 | apply QCw_609 | apply QCw_610 | apply QCw_611 | apply QCw_612 | apply QCw_2016 | apply QCw_2017 | apply QCw_2014 | apply QCw_2015 | apply QCw_206 | apply QCw_207 | apply QCw_410 | apply QCw_411 | apply QCw_412 | apply QCw_413 | apply QCw_2025 | refine QC_g (by decide) ?_ | refine QC_sm (by assumption) (by decide) (by decide) ?_))) (by decide) (by decide) ⟨Nat.zero_le _, Nat.zero_le _⟩ (Nat.le_of_ble_eq_true rfl) (fun G68 hp68 => ?_)
    obtain ⟨hz68, hq68⟩ := hp68
    have hZ68 := hq68
    refine zs_goto (tgt := 181) (pc := 71) C dX3_readLine_71 (by decide) ?_
    exact zs_wk (J181 _ _ (by repeat (first | exact zsm_rf | assumption | refine zsm_C (by decide) ?_ | refine zsm_I (by decide) ?_ | refine zsm_J ?_ | refine zsm_c (by assumption) (by decide) ?_)) (by repeat (first | assumption | apply QCw_407 | apply QCw_408 | apply QCw_406 | apply QCw_2037 | apply QCw_2036 | apply QCw_2038 | apply QCw_2039 | apply QCw_2040 | apply QCw_2041 | apply QCw_2042 | apply QCw_2043 | apply QCw_609 | apply QCw_610 | apply QCw_611 | apply QCw_612 | apply QCw_2016 | apply QCw_2017 | apply QCw_2014 | apply QCw_2015 | apply QCw_206 | apply QCw_207 | apply QCw_410 | apply QCw_411 | apply QCw_412 | apply QCw_413 | apply QCw_2025 | refine QC_g (by decide) ?_ | refine QC_sm (by assumption) (by decide) (by decide) ?_)) (by unfold sBody; repeat (first | rw [if_pos (by omega)] | rw [if_neg (by omega)]))) (zwk_s rfl zwk_0)
  · skip
    refine zs_tabIn (pc := 4) (tgt := 176) C 2 dX3_readLine_4 h4 (by decide) rfl (by decide) ?_
    refine zs_aload_n (pc := 176) C dX3_readLine_176 rfl ?_
    refine zs_iconst (pc := 177) C dX3_readLine_177 (by decide) ?_
    refine zVv1 (pc := 178) C dX3_readLine_178 v_X3_114 (c_X3_failF hX (by repeat (first | assumption | apply QCw_407 | apply QCw_408 | apply QCw_406 | apply QCw_2037 | apply QCw_2036 | apply QCw_2038 | apply QCw_2039 | apply QCw_2040 | apply QCw_2041 | apply QCw_2042 | apply QCw_2043 | apply QCw_609 | apply QCw_610 | apply QCw_611 | apply QCw_612 | apply QCw_2016 | apply QCw_2017 | apply QCw_2014 | apply QCw_2015 | apply QCw_206 | apply QCw_207 | apply QCw_410 | apply QCw_411 | apply QCw_412 | apply QCw_413 | apply QCw_2025 | refine QC_g (by decide) ?_ | refine QC_sm (by assumption) (by decide) (by decide) ?_))) (by decide) (by decide) ⟨Nat.zero_le _, Nat.zero_le _⟩ (Nat.le_of_ble_eq_true rfl) (fun G178 hp178 => ?_)
    obtain ⟨hz178, hq178⟩ := hp178
    have hZ178 := hq178
    exact zs_wk (J181 _ _ (by repeat (first | exact zsm_rf | assumption | refine zsm_C (by decide) ?_ | refine zsm_I (by decide) ?_ | refine zsm_J ?_ | refine zsm_c (by assumption) (by decide) ?_)) (by repeat (first | assumption | apply QCw_407 | apply QCw_408 | apply QCw_406 | apply QCw_2037 | apply QCw_2036 | apply QCw_2038 | apply QCw_2039 | apply QCw_2040 | apply QCw_2041 | apply QCw_2042 | apply QCw_2043 | apply QCw_609 | apply QCw_610 | apply QCw_611 | apply QCw_612 | apply QCw_2016 | apply QCw_2017 | apply QCw_2014 | apply QCw_2015 | apply QCw_206 | apply QCw_207 | apply QCw_410 | apply QCw_411 | apply QCw_412 | apply QCw_413 | apply QCw_2025 | refine QC_g (by decide) ?_ | refine QC_sm (by assumption) (by decide) (by decide) ?_)) (by unfold sBody; repeat (first | rw [if_pos (by omega)] | rw [if_neg (by omega)]))) (zwk_s rfl zwk_0)
  · skip
    refine zs_tabIn (pc := 4) (tgt := 74) C 3 dX3_readLine_4 h4 (by decide) rfl (by decide) ?_
    refine zs_aload_n (pc := 74) C dX3_readLine_74 rfl ?_
    refine zVv0 (pc := 75) C dX3_readLine_75 v_X3_82 (c_X3_readCakeF hX (by repeat (first | assumption | apply QCw_407 | apply QCw_408 | apply QCw_406 | apply QCw_2037 | apply QCw_2036 | apply QCw_2038 | apply QCw_2039 | apply QCw_2040 | apply QCw_2041 | apply QCw_2042 | apply QCw_2043 | apply QCw_609 | apply QCw_610 | apply QCw_611 | apply QCw_612 | apply QCw_2016 | apply QCw_2017 | apply QCw_2014 | apply QCw_2015 | apply QCw_206 | apply QCw_207 | apply QCw_410 | apply QCw_411 | apply QCw_412 | apply QCw_413 | apply QCw_2025 | refine QC_g (by decide) ?_ | refine QC_sm (by assumption) (by decide) (by decide) ?_))) (by decide) (by decide) ⟨Nat.zero_le _, Nat.zero_le _⟩ (Nat.le_of_ble_eq_true rfl) (fun G75 hp75 => ?_)
    obtain ⟨hz75, hq75⟩ := hp75
    have hZ75 := hq75
    refine zs_goto (tgt := 181) (pc := 78) C dX3_readLine_78 (by decide) ?_
    exact zs_wk (J181 _ _ (by repeat (first | exact zsm_rf | assumption | refine zsm_C (by decide) ?_ | refine zsm_I (by decide) ?_ | refine zsm_J ?_ | refine zsm_c (by assumption) (by decide) ?_)) (by repeat (first | assumption | apply QCw_407 | apply QCw_408 | apply QCw_406 | apply QCw_2037 | apply QCw_2036 | apply QCw_2038 | apply QCw_2039 | apply QCw_2040 | apply QCw_2041 | apply QCw_2042 | apply QCw_2043 | apply QCw_609 | apply QCw_610 | apply QCw_611 | apply QCw_612 | apply QCw_2016 | apply QCw_2017 | apply QCw_2014 | apply QCw_2015 | apply QCw_206 | apply QCw_207 | apply QCw_410 | apply QCw_411 | apply QCw_412 | apply QCw_413 | apply QCw_2025 | refine QC_g (by decide) ?_ | refine QC_sm (by assumption) (by decide) (by decide) ?_)) (by unfold sBody; repeat (first | rw [if_pos (by omega)] | rw [if_neg (by omega)]))) (zwk_s rfl zwk_0)
  · skip
    refine zs_tabIn (pc := 4) (tgt := 81) C 4 dX3_readLine_4 h4 (by decide) rfl (by decide) ?_
    refine zs_aload_n (pc := 81) C dX3_readLine_81 rfl ?_
    refine zs_getd (r := 401) (pc := 82) C dX3_readLine_82 w_X3_21 f_4_1 (by decide) rfl (fun v82 e82 t82 => ?_)
    rw [hI] at e82
    subst v82
    refine zs_aload_n (pc := 85) C dX3_readLine_85 rfl ?_
    refine zs_iconst (pc := 86) C dX3_readLine_86 (by decide) ?_
    refine zs_sipush (pc := 87) C dX3_readLine_87 (by decide) (by decide) ?_
    refine zVi2 (pc := 90) C dX3_readLine_90 v_X3_85 (c_X3_readOnceF hX (by repeat (first | assumption | apply QCw_407 | apply QCw_408 | apply QCw_406 | apply QCw_2037 | apply QCw_2036 | apply QCw_2038 | apply QCw_2039 | apply QCw_2040 | apply QCw_2041 | apply QCw_2042 | apply QCw_2043 | apply QCw_609 | apply QCw_610 | apply QCw_611 | apply QCw_612 | apply QCw_2016 | apply QCw_2017 | apply QCw_2014 | apply QCw_2015 | apply QCw_206 | apply QCw_207 | apply QCw_410 | apply QCw_411 | apply QCw_412 | apply QCw_413 | apply QCw_2025 | refine QC_g (by decide) ?_ | refine QC_sm (by assumption) (by decide) (by decide) ?_)) (by omega)) (by decide) (by decide) ⟨Nat.zero_le _, Nat.zero_le _⟩ (Nat.le_of_ble_eq_true rfl) (fun x90 G90 l90 u90 hp90 => ?_)
    obtain ⟨hz90, hq90⟩ := hp90
    have hZ90 := hq90.1
    have hX90 := hq90.2.1
    have hB90 := hq90.2.2
    subst hX90
    refine zs_puti (r := 609) (pc := 93) C dX3_readLine_93 w_X3_89 f_6_9 rfl (r_609 0) (by omega) ?_
    refine zs_goto (tgt := 181) (pc := 96) C dX3_readLine_96 (by decide) ?_
    exact zs_wk (J181 _ _ (by repeat (first | exact zsm_rf | assumption | refine zsm_C (by decide) ?_ | refine zsm_I (by decide) ?_ | refine zsm_J ?_ | refine zsm_c (by assumption) (by decide) ?_)) (by repeat (first | assumption | apply QCw_407 | apply QCw_408 | apply QCw_406 | apply QCw_2037 | apply QCw_2036 | apply QCw_2038 | apply QCw_2039 | apply QCw_2040 | apply QCw_2041 | apply QCw_2042 | apply QCw_2043 | apply QCw_609 | apply QCw_610 | apply QCw_611 | apply QCw_612 | apply QCw_2016 | apply QCw_2017 | apply QCw_2014 | apply QCw_2015 | apply QCw_206 | apply QCw_207 | apply QCw_410 | apply QCw_411 | apply QCw_412 | apply QCw_413 | apply QCw_2025 | refine QC_g (by decide) ?_ | refine QC_sm (by assumption) (by decide) (by decide) ?_)) (by unfold sBody; repeat (first | rw [if_pos (by omega)] | rw [if_neg (by omega)]))) (zwk_s rfl zwk_0)
  · skip
    refine zs_tabIn (pc := 4) (tgt := 99) C 5 dX3_readLine_4 h4 (by decide) rfl (by decide) ?_
    refine zs_aload_n (pc := 99) C dX3_readLine_99 rfl ?_
    refine zs_getd (r := 401) (pc := 100) C dX3_readLine_100 w_X3_21 f_4_1 (by decide) rfl (fun v100 e100 t100 => ?_)
    rw [hI] at e100
    subst v100
    refine zs_aload_n (pc := 103) C dX3_readLine_103 rfl ?_
    refine zs_iconst (pc := 104) C dX3_readLine_104 (by decide) ?_
    refine zs_bipush (pc := 105) C dX3_readLine_105 (by decide) (by decide) ?_
    refine zVi2 (pc := 107) C dX3_readLine_107 v_X3_85 (c_X3_readOnceF hX (by repeat (first | assumption | apply QCw_407 | apply QCw_408 | apply QCw_406 | apply QCw_2037 | apply QCw_2036 | apply QCw_2038 | apply QCw_2039 | apply QCw_2040 | apply QCw_2041 | apply QCw_2042 | apply QCw_2043 | apply QCw_609 | apply QCw_610 | apply QCw_611 | apply QCw_612 | apply QCw_2016 | apply QCw_2017 | apply QCw_2014 | apply QCw_2015 | apply QCw_206 | apply QCw_207 | apply QCw_410 | apply QCw_411 | apply QCw_412 | apply QCw_413 | apply QCw_2025 | refine QC_g (by decide) ?_ | refine QC_sm (by assumption) (by decide) (by decide) ?_)) (by omega)) (by decide) (by decide) ⟨Nat.zero_le _, Nat.zero_le _⟩ (Nat.le_of_ble_eq_true rfl) (fun x107 G107 l107 u107 hp107 => ?_)
    obtain ⟨hz107, hq107⟩ := hp107
    have hZ107 := hq107.1
    have hX107 := hq107.2.1
    have hB107 := hq107.2.2
    subst hX107
    refine zs_puti (r := 610) (pc := 110) C dX3_readLine_110 w_X3_92 f_6_10 rfl (r_610 0) (by omega) ?_
    refine zs_goto (tgt := 181) (pc := 113) C dX3_readLine_113 (by decide) ?_
    exact zs_wk (J181 _ _ (by repeat (first | exact zsm_rf | assumption | refine zsm_C (by decide) ?_ | refine zsm_I (by decide) ?_ | refine zsm_J ?_ | refine zsm_c (by assumption) (by decide) ?_)) (by repeat (first | assumption | apply QCw_407 | apply QCw_408 | apply QCw_406 | apply QCw_2037 | apply QCw_2036 | apply QCw_2038 | apply QCw_2039 | apply QCw_2040 | apply QCw_2041 | apply QCw_2042 | apply QCw_2043 | apply QCw_609 | apply QCw_610 | apply QCw_611 | apply QCw_612 | apply QCw_2016 | apply QCw_2017 | apply QCw_2014 | apply QCw_2015 | apply QCw_206 | apply QCw_207 | apply QCw_410 | apply QCw_411 | apply QCw_412 | apply QCw_413 | apply QCw_2025 | refine QC_g (by decide) ?_ | refine QC_sm (by assumption) (by decide) (by decide) ?_)) (by unfold sBody; repeat (first | rw [if_pos (by omega)] | rw [if_neg (by omega)]))) (zwk_s rfl zwk_0)
  · skip
    refine zs_tabIn (pc := 4) (tgt := 116) C 6 dX3_readLine_4 h4 (by decide) rfl (by decide) ?_
    refine zs_aload_n (pc := 116) C dX3_readLine_116 rfl ?_
    refine zs_getd (r := 401) (pc := 117) C dX3_readLine_117 w_X3_21 f_4_1 (by decide) rfl (fun v117 e117 t117 => ?_)
    rw [hI] at e117
    subst v117
    refine zs_aload_n (pc := 120) C dX3_readLine_120 rfl ?_
    refine zs_iconst (pc := 121) C dX3_readLine_121 (by decide) ?_
    refine zs_sipush (pc := 122) C dX3_readLine_122 (by decide) (by decide) ?_
    refine zVi2 (pc := 125) C dX3_readLine_125 v_X3_85 (c_X3_readOnceF hX (by repeat (first | assumption | apply QCw_407 | apply QCw_408 | apply QCw_406 | apply QCw_2037 | apply QCw_2036 | apply QCw_2038 | apply QCw_2039 | apply QCw_2040 | apply QCw_2041 | apply QCw_2042 | apply QCw_2043 | apply QCw_609 | apply QCw_610 | apply QCw_611 | apply QCw_612 | apply QCw_2016 | apply QCw_2017 | apply QCw_2014 | apply QCw_2015 | apply QCw_206 | apply QCw_207 | apply QCw_410 | apply QCw_411 | apply QCw_412 | apply QCw_413 | apply QCw_2025 | refine QC_g (by decide) ?_ | refine QC_sm (by assumption) (by decide) (by decide) ?_)) (by omega)) (by decide) (by decide) ⟨Nat.zero_le _, Nat.zero_le _⟩ (Nat.le_of_ble_eq_true rfl) (fun x125 G125 l125 u125 hp125 => ?_)
    obtain ⟨hz125, hq125⟩ := hp125
    have hZ125 := hq125.1
    have hX125 := hq125.2.1
    have hB125 := hq125.2.2
    subst hX125
    refine zs_puti (r := 611) (pc := 128) C dX3_readLine_128 w_X3_95 f_6_11 rfl (r_611 0) (by omega) ?_
    refine zs_goto (tgt := 181) (pc := 131) C dX3_readLine_131 (by decide) ?_
    exact zs_wk (J181 _ _ (by repeat (first | exact zsm_rf | assumption | refine zsm_C (by decide) ?_ | refine zsm_I (by decide) ?_ | refine zsm_J ?_ | refine zsm_c (by assumption) (by decide) ?_)) (by repeat (first | assumption | apply QCw_407 | apply QCw_408 | apply QCw_406 | apply QCw_2037 | apply QCw_2036 | apply QCw_2038 | apply QCw_2039 | apply QCw_2040 | apply QCw_2041 | apply QCw_2042 | apply QCw_2043 | apply QCw_609 | apply QCw_610 | apply QCw_611 | apply QCw_612 | apply QCw_2016 | apply QCw_2017 | apply QCw_2014 | apply QCw_2015 | apply QCw_206 | apply QCw_207 | apply QCw_410 | apply QCw_411 | apply QCw_412 | apply QCw_413 | apply QCw_2025 | refine QC_g (by decide) ?_ | refine QC_sm (by assumption) (by decide) (by decide) ?_)) (by unfold sBody; repeat (first | rw [if_pos (by omega)] | rw [if_neg (by omega)]))) (zwk_s rfl zwk_0)
  · skip
    refine zs_tabIn (pc := 4) (tgt := 134) C 7 dX3_readLine_4 h4 (by decide) rfl (by decide) ?_
    refine zs_aload_n (pc := 134) C dX3_readLine_134 rfl ?_
    refine zs_getd (r := 401) (pc := 135) C dX3_readLine_135 w_X3_21 f_4_1 (by decide) rfl (fun v135 e135 t135 => ?_)
    rw [hI] at e135
    subst v135
    refine zs_aload_n (pc := 138) C dX3_readLine_138 rfl ?_
    refine zs_iconst (pc := 139) C dX3_readLine_139 (by decide) ?_
    refine zs_ldc (n := 99999) (pc := 140) C dX3_readLine_140 q_X3_98 (by decide) (by decide) ?_
    refine zVi2 (pc := 142) C dX3_readLine_142 v_X3_85 (c_X3_readOnceF hX (by repeat (first | assumption | apply QCw_407 | apply QCw_408 | apply QCw_406 | apply QCw_2037 | apply QCw_2036 | apply QCw_2038 | apply QCw_2039 | apply QCw_2040 | apply QCw_2041 | apply QCw_2042 | apply QCw_2043 | apply QCw_609 | apply QCw_610 | apply QCw_611 | apply QCw_612 | apply QCw_2016 | apply QCw_2017 | apply QCw_2014 | apply QCw_2015 | apply QCw_206 | apply QCw_207 | apply QCw_410 | apply QCw_411 | apply QCw_412 | apply QCw_413 | apply QCw_2025 | refine QC_g (by decide) ?_ | refine QC_sm (by assumption) (by decide) (by decide) ?_)) (by omega)) (by decide) (by decide) ⟨Nat.zero_le _, Nat.zero_le _⟩ (Nat.le_of_ble_eq_true rfl) (fun x142 G142 l142 u142 hp142 => ?_)
    obtain ⟨hz142, hq142⟩ := hp142
    have hZ142 := hq142.1
    have hX142 := hq142.2.1
    have hB142 := hq142.2.2
    subst hX142
    refine zs_puti (r := 612) (pc := 145) C dX3_readLine_145 w_X3_99 f_6_12 rfl (r_612 0) (by omega) ?_
    refine zs_goto (tgt := 181) (pc := 148) C dX3_readLine_148 (by decide) ?_
    exact zs_wk (J181 _ _ (by repeat (first | exact zsm_rf | assumption | refine zsm_C (by decide) ?_ | refine zsm_I (by decide) ?_ | refine zsm_J ?_ | refine zsm_c (by assumption) (by decide) ?_)) (by repeat (first | assumption | apply QCw_407 | apply QCw_408 | apply QCw_406 | apply QCw_2037 | apply QCw_2036 | apply QCw_2038 | apply QCw_2039 | apply QCw_2040 | apply QCw_2041 | apply QCw_2042 | apply QCw_2043 | apply QCw_609 | apply QCw_610 | apply QCw_611 | apply QCw_612 | apply QCw_2016 | apply QCw_2017 | apply QCw_2014 | apply QCw_2015 | apply QCw_206 | apply QCw_207 | apply QCw_410 | apply QCw_411 | apply QCw_412 | apply QCw_413 | apply QCw_2025 | refine QC_g (by decide) ?_ | refine QC_sm (by assumption) (by decide) (by decide) ?_)) (by unfold sBody; repeat (first | rw [if_pos (by omega)] | rw [if_neg (by omega)]))) (zwk_s rfl zwk_0)
  · skip
    refine zs_tabIn (pc := 4) (tgt := 151) C 8 dX3_readLine_4 h4 (by decide) rfl (by decide) ?_
    refine zs_aload_n (pc := 151) C dX3_readLine_151 rfl ?_
    refine zs_aload_n (pc := 152) C dX3_readLine_152 rfl ?_
    refine zVi0 (pc := 153) C dX3_readLine_153 v_X3_102 (c_X3_readKindF hX (by repeat (first | assumption | apply QCw_407 | apply QCw_408 | apply QCw_406 | apply QCw_2037 | apply QCw_2036 | apply QCw_2038 | apply QCw_2039 | apply QCw_2040 | apply QCw_2041 | apply QCw_2042 | apply QCw_2043 | apply QCw_609 | apply QCw_610 | apply QCw_611 | apply QCw_612 | apply QCw_2016 | apply QCw_2017 | apply QCw_2014 | apply QCw_2015 | apply QCw_206 | apply QCw_207 | apply QCw_410 | apply QCw_411 | apply QCw_412 | apply QCw_413 | apply QCw_2025 | refine QC_g (by decide) ?_ | refine QC_sm (by assumption) (by decide) (by decide) ?_))) (by decide) (by decide) ⟨Nat.zero_le _, Nat.zero_le _⟩ (Nat.le_of_ble_eq_true rfl) (fun x153 G153 l153 u153 hp153 => ?_)
    obtain ⟨hz153, hq153⟩ := hp153
    have hZ153 := hq153.1
    have hX153 := hq153.2.1
    have hB153 := hq153.2.2
    subst hX153
    refine zVv1 (pc := 156) C dX3_readLine_156 v_X3_106 (c_X3_readEF hX (by repeat (first | assumption | apply QCw_407 | apply QCw_408 | apply QCw_406 | apply QCw_2037 | apply QCw_2036 | apply QCw_2038 | apply QCw_2039 | apply QCw_2040 | apply QCw_2041 | apply QCw_2042 | apply QCw_2043 | apply QCw_609 | apply QCw_610 | apply QCw_611 | apply QCw_612 | apply QCw_2016 | apply QCw_2017 | apply QCw_2014 | apply QCw_2015 | apply QCw_206 | apply QCw_207 | apply QCw_410 | apply QCw_411 | apply QCw_412 | apply QCw_413 | apply QCw_2025 | refine QC_g (by decide) ?_ | refine QC_sm (by assumption) (by decide) (by decide) ?_))) (by decide) (by decide) ⟨Nat.zero_le _, Nat.zero_le _⟩ (Nat.le_of_ble_eq_true rfl) (fun G156 hp156 => ?_)
    obtain ⟨hz156, hq156⟩ := hp156
    have hZ156 := hq156
    refine zs_goto (tgt := 181) (pc := 159) C dX3_readLine_159 (by decide) ?_
    exact zs_wk (J181 _ _ (by repeat (first | exact zsm_rf | assumption | refine zsm_C (by decide) ?_ | refine zsm_I (by decide) ?_ | refine zsm_J ?_ | refine zsm_c (by assumption) (by decide) ?_)) (by repeat (first | assumption | apply QCw_407 | apply QCw_408 | apply QCw_406 | apply QCw_2037 | apply QCw_2036 | apply QCw_2038 | apply QCw_2039 | apply QCw_2040 | apply QCw_2041 | apply QCw_2042 | apply QCw_2043 | apply QCw_609 | apply QCw_610 | apply QCw_611 | apply QCw_612 | apply QCw_2016 | apply QCw_2017 | apply QCw_2014 | apply QCw_2015 | apply QCw_206 | apply QCw_207 | apply QCw_410 | apply QCw_411 | apply QCw_412 | apply QCw_413 | apply QCw_2025 | refine QC_g (by decide) ?_ | refine QC_sm (by assumption) (by decide) (by decide) ?_)) (by unfold sBody; repeat (first | rw [if_pos (by omega)] | rw [if_neg (by omega)]))) (zwk_s rfl zwk_0)
  · skip
    refine zs_tabIn (pc := 4) (tgt := 162) C 9 dX3_readLine_4 h4 (by decide) rfl (by decide) ?_
    refine zs_aload_n (pc := 162) C dX3_readLine_162 rfl ?_
    refine zs_iconst (pc := 163) C dX3_readLine_163 (by decide) ?_
    refine zs_aload_n (pc := 164) C dX3_readLine_164 rfl ?_
    refine zs_iconst (pc := 165) C dX3_readLine_165 (by decide) ?_
    refine zVi1 (pc := 166) C dX3_readLine_166 v_X3_110 (c_X3_readNewF hX (by repeat (first | assumption | apply QCw_407 | apply QCw_408 | apply QCw_406 | apply QCw_2037 | apply QCw_2036 | apply QCw_2038 | apply QCw_2039 | apply QCw_2040 | apply QCw_2041 | apply QCw_2042 | apply QCw_2043 | apply QCw_609 | apply QCw_610 | apply QCw_611 | apply QCw_612 | apply QCw_2016 | apply QCw_2017 | apply QCw_2014 | apply QCw_2015 | apply QCw_206 | apply QCw_207 | apply QCw_410 | apply QCw_411 | apply QCw_412 | apply QCw_413 | apply QCw_2025 | refine QC_g (by decide) ?_ | refine QC_sm (by assumption) (by decide) (by decide) ?_)) (by omega)) (by decide) (by decide) ⟨Nat.zero_le _, Nat.zero_le _⟩ (Nat.le_of_ble_eq_true rfl) (fun x166 G166 l166 u166 hp166 => ?_)
    obtain ⟨hz166, hq166⟩ := hp166
    have hZ166 := hq166.1
    have hX166 := hq166.2.1
    have hB166 := hq166.2.2
    subst hX166
    first | refine zs_iadd (pc := 169) C dX3_readLine_169 (by omega) ?_ | refine zs_iaddF (pc := 169) C dX3_readLine_169 (fun z169 hz1691 hz1692 => ?_)
    refine zVv1 (pc := 170) C dX3_readLine_170 v_X3_106 (c_X3_readEF hX (by repeat (first | assumption | apply QCw_407 | apply QCw_408 | apply QCw_406 | apply QCw_2037 | apply QCw_2036 | apply QCw_2038 | apply QCw_2039 | apply QCw_2040 | apply QCw_2041 | apply QCw_2042 | apply QCw_2043 | apply QCw_609 | apply QCw_610 | apply QCw_611 | apply QCw_612 | apply QCw_2016 | apply QCw_2017 | apply QCw_2014 | apply QCw_2015 | apply QCw_206 | apply QCw_207 | apply QCw_410 | apply QCw_411 | apply QCw_412 | apply QCw_413 | apply QCw_2025 | refine QC_g (by decide) ?_ | refine QC_sm (by assumption) (by decide) (by decide) ?_))) (by decide) (by decide) ⟨Nat.zero_le _, Nat.zero_le _⟩ (Nat.le_of_ble_eq_true rfl) (fun G170 hp170 => ?_)
    obtain ⟨hz170, hq170⟩ := hp170
    have hZ170 := hq170
    refine zs_goto (tgt := 181) (pc := 173) C dX3_readLine_173 (by decide) ?_
    exact zs_wk (J181 _ _ (by repeat (first | exact zsm_rf | assumption | refine zsm_C (by decide) ?_ | refine zsm_I (by decide) ?_ | refine zsm_J ?_ | refine zsm_c (by assumption) (by decide) ?_)) (by repeat (first | assumption | apply QCw_407 | apply QCw_408 | apply QCw_406 | apply QCw_2037 | apply QCw_2036 | apply QCw_2038 | apply QCw_2039 | apply QCw_2040 | apply QCw_2041 | apply QCw_2042 | apply QCw_2043 | apply QCw_609 | apply QCw_610 | apply QCw_611 | apply QCw_612 | apply QCw_2016 | apply QCw_2017 | apply QCw_2014 | apply QCw_2015 | apply QCw_206 | apply QCw_207 | apply QCw_410 | apply QCw_411 | apply QCw_412 | apply QCw_413 | apply QCw_2025 | refine QC_g (by decide) ?_ | refine QC_sm (by assumption) (by decide) (by decide) ?_)) (by unfold sBody; repeat (first | rw [if_pos (by omega)] | rw [if_neg (by omega)]))) (zwk_s rfl zwk_0)
  · skip
    refine zs_tabOut (tgt := 176) (pc := 4) C dX3_readLine_4 h4 (by decide) ?_
    refine zs_aload_n (pc := 176) C dX3_readLine_176 rfl ?_
    refine zs_iconst (pc := 177) C dX3_readLine_177 (by decide) ?_
    refine zVv1 (pc := 178) C dX3_readLine_178 v_X3_114 (c_X3_failF hX (by repeat (first | assumption | apply QCw_407 | apply QCw_408 | apply QCw_406 | apply QCw_2037 | apply QCw_2036 | apply QCw_2038 | apply QCw_2039 | apply QCw_2040 | apply QCw_2041 | apply QCw_2042 | apply QCw_2043 | apply QCw_609 | apply QCw_610 | apply QCw_611 | apply QCw_612 | apply QCw_2016 | apply QCw_2017 | apply QCw_2014 | apply QCw_2015 | apply QCw_206 | apply QCw_207 | apply QCw_410 | apply QCw_411 | apply QCw_412 | apply QCw_413 | apply QCw_2025 | refine QC_g (by decide) ?_ | refine QC_sm (by assumption) (by decide) (by decide) ?_))) (by decide) (by decide) ⟨Nat.zero_le _, Nat.zero_le _⟩ (Nat.le_of_ble_eq_true rfl) (fun G178 hp178 => ?_)
    obtain ⟨hz178, hq178⟩ := hp178
    have hZ178 := hq178
    exact zs_wk (J181 _ _ (by repeat (first | exact zsm_rf | assumption | refine zsm_C (by decide) ?_ | refine zsm_I (by decide) ?_ | refine zsm_J ?_ | refine zsm_c (by assumption) (by decide) ?_)) (by repeat (first | assumption | apply QCw_407 | apply QCw_408 | apply QCw_406 | apply QCw_2037 | apply QCw_2036 | apply QCw_2038 | apply QCw_2039 | apply QCw_2040 | apply QCw_2041 | apply QCw_2042 | apply QCw_2043 | apply QCw_609 | apply QCw_610 | apply QCw_611 | apply QCw_612 | apply QCw_2016 | apply QCw_2017 | apply QCw_2014 | apply QCw_2015 | apply QCw_206 | apply QCw_207 | apply QCw_410 | apply QCw_411 | apply QCw_412 | apply QCw_413 | apply QCw_2025 | refine QC_g (by decide) ?_ | refine QC_sm (by assumption) (by decide) (by decide) ?_)) (by unfold sBody; repeat (first | rw [if_pos (by omega)] | rw [if_neg (by omega)]))) (zwk_s rfl zwk_0)

theorem sLN_e {b : Nat → Int} {n : Int} {A : aS} (h : ¬ (A 1 0 = 0 ∧ tK b n A ≠ 0)) : ∀ (m : Nat) (c : Int), sLN b n m A = A ∧ sLC b n m c A = c
  | 0, _ => ⟨rfl, rfl⟩
  | m + 1, c => by rw [sLN, sLC, if_neg h, if_neg h]; exact ⟨rfl, rfl⟩
/-! what lies beyond the reader's own numbers stays -/
def hiG (A B : aS) : Prop := ∀ f j : Nat, 100 ≤ f → B f j = A f j
theorem hi_rf {A : aS} : hiG A A := fun _ _ _ => rfl
theorem hi_up {A B : aS} {f j : Nat} {v : Int} (hf : f < 100) (h : hiG A B) : hiG A (up B f j v) := fun f' j' h' => by rw [up_f (by omega)]; exact h f' j' h'
theorem hi_sNext {A B : aS} {b : Nat → Int} {n : Int} (h : hiG A B) : hiG A (sNext b n B) := by
  unfold sNext
  (repeat' split) <;> (with_reducible repeat (first | assumption | refine hi_up (by decide) ?_))
theorem hi_sFail {A B : aS} {b : Nat → Int} {n : Int} {c : Int} (h : hiG A B) : hiG A (sFail b n c B) := by
  unfold sFail
  (repeat' split) <;> (with_reducible repeat (first | assumption | refine hi_up (by decide) ?_ | refine hi_sNext ?_))
theorem hi_sNumB {A B : aS} {b : Nat → Int} {n : Int} (h : hiG A B) : hiG A (sNumB b n B) := by
  unfold sNumB
  (repeat' split) <;> (with_reducible repeat (first | assumption | refine hi_up (by decide) ?_ | refine hi_sFail ?_ | refine hi_sNext ?_))
theorem hi_sNum {A B : aS} {b : Nat → Int} {n : Int} {lo hi : Int} (h : hiG A B) : hiG A (sNum b n lo hi B) := by
  unfold sNum
  (repeat' split) <;> (with_reducible repeat (first | assumption | refine hi_up (by decide) ?_ | refine hi_sNumB ?_ | refine hi_sFail ?_ | refine hi_sNext ?_))
theorem hi_sAdd {A B : aS} {kd c : Int} (h : hiG A B) : hiG A (sAdd kd c B) := by
  unfold sAdd
  (repeat' split) <;> (with_reducible repeat (first | assumption | refine hi_up (by decide) ?_ | refine hi_sNum ?_ | refine hi_sNumB ?_ | refine hi_sFail ?_ | refine hi_sNext ?_))
theorem hi_sNew {A B : aS} {b : Nat → Int} {n : Int} {kd : Int} (h : hiG A B) : hiG A (sNew b n kd B) := by
  unfold sNew
  (repeat' split) <;> (with_reducible repeat (first | assumption | refine hi_up (by decide) ?_ | refine hi_sAdd ?_ | refine hi_sNum ?_ | refine hi_sNumB ?_ | refine hi_sFail ?_ | refine hi_sNext ?_))
theorem hi_sSin {A B : aS} {b : Nat → Int} {n : Int} (h : hiG A B) : hiG A (sSin b n B) := by
  unfold sSin
  (repeat' split) <;> (with_reducible repeat (first | assumption | refine hi_up (by decide) ?_ | refine hi_sNew ?_ | refine hi_sAdd ?_ | refine hi_sNum ?_ | refine hi_sNumB ?_ | refine hi_sFail ?_ | refine hi_sNext ?_))
theorem hi_sDeed {A B : aS} {b : Nat → Int} {n : Int} {p : Int} (h : hiG A B) : hiG A (sDeed b n p B) := by
  unfold sDeed
  (repeat' split) <;> (with_reducible repeat (first | assumption | refine hi_up (by decide) ?_ | refine hi_sSin ?_ | refine hi_sNew ?_ | refine hi_sAdd ?_ | refine hi_sNum ?_ | refine hi_sNumB ?_ | refine hi_sFail ?_ | refine hi_sNext ?_))
theorem hi_sDeeds {b : Nat → Int} {n : Int} {p : Int} : ∀ (m : Nat) {A B : aS}, hiG A B → hiG A (sDeeds b n p m B)
  | 0, _, _, h => h
  | m + 1, A, B, h => by
    rw [sDeeds]
    split
    · exact hi_sDeeds m (hi_sDeed (hi_sNext h))
    · exact h
theorem hi_sHon {A B : aS} {b : Nat → Int} {n : Int} (h : hiG A B) : hiG A (sHon b n B) := by
  unfold sHon
  (repeat' split) <;> (with_reducible repeat (first | assumption | refine hi_up (by decide) ?_ | refine hi_sDeeds _ ?_ | refine hi_sDeed ?_ | refine hi_sSin ?_ | refine hi_sNew ?_ | refine hi_sAdd ?_ | refine hi_sNum ?_ | refine hi_sNumB ?_ | refine hi_sFail ?_ | refine hi_sNext ?_))
theorem hi_sPerson {A B : aS} {b : Nat → Int} {n : Int} (h : hiG A B) : hiG A (sPerson b n B) := by
  unfold sPerson
  (repeat' split) <;> (with_reducible repeat (first | assumption | refine hi_up (by decide) ?_ | refine hi_sHon ?_ | refine hi_sDeeds _ ?_ | refine hi_sDeed ?_ | refine hi_sSin ?_ | refine hi_sNew ?_ | refine hi_sAdd ?_ | refine hi_sNum ?_ | refine hi_sNumB ?_ | refine hi_sFail ?_ | refine hi_sNext ?_))
theorem hi_sC1 {A B : aS} {b : Nat → Int} {n : Int} (h : hiG A B) : hiG A (sC1 b n B) := by
  unfold sC1
  (repeat' split) <;> (with_reducible repeat (first | assumption | refine hi_up (by decide) ?_ | refine hi_sPerson ?_ | refine hi_sHon ?_ | refine hi_sDeeds _ ?_ | refine hi_sDeed ?_ | refine hi_sSin ?_ | refine hi_sNew ?_ | refine hi_sAdd ?_ | refine hi_sNum ?_ | refine hi_sNumB ?_ | refine hi_sFail ?_ | refine hi_sNext ?_))
theorem hi_sC2 {A B : aS} {b : Nat → Int} {n : Int} (h : hiG A B) : hiG A (sC2 b n B) := by
  unfold sC2
  (repeat' split) <;> (with_reducible repeat (first | assumption | refine hi_up (by decide) ?_ | refine hi_sC1 ?_ | refine hi_sPerson ?_ | refine hi_sHon ?_ | refine hi_sDeeds _ ?_ | refine hi_sDeed ?_ | refine hi_sSin ?_ | refine hi_sNew ?_ | refine hi_sAdd ?_ | refine hi_sNum ?_ | refine hi_sNumB ?_ | refine hi_sFail ?_ | refine hi_sNext ?_))
theorem hi_sC3 {A B : aS} {b : Nat → Int} {n : Int} (h : hiG A B) : hiG A (sC3 b n B) := by
  unfold sC3
  (repeat' split) <;> (with_reducible repeat (first | assumption | refine hi_up (by decide) ?_ | refine hi_sC2 ?_ | refine hi_sC1 ?_ | refine hi_sPerson ?_ | refine hi_sHon ?_ | refine hi_sDeeds _ ?_ | refine hi_sDeed ?_ | refine hi_sSin ?_ | refine hi_sNew ?_ | refine hi_sAdd ?_ | refine hi_sNum ?_ | refine hi_sNumB ?_ | refine hi_sFail ?_ | refine hi_sNext ?_))
theorem hi_sCake {A B : aS} {b : Nat → Int} {n : Int} (h : hiG A B) : hiG A (sCake b n B) := by
  unfold sCake
  (repeat' split) <;> (with_reducible repeat (first | assumption | refine hi_up (by decide) ?_ | refine hi_sC3 ?_ | refine hi_sC2 ?_ | refine hi_sC1 ?_ | refine hi_sPerson ?_ | refine hi_sHon ?_ | refine hi_sDeeds _ ?_ | refine hi_sDeed ?_ | refine hi_sSin ?_ | refine hi_sNew ?_ | refine hi_sAdd ?_ | refine hi_sNum ?_ | refine hi_sNumB ?_ | refine hi_sFail ?_ | refine hi_sNext ?_))
theorem hi_sKind {A B : aS} {b : Nat → Int} {n : Int} (h : hiG A B) : hiG A (sKind b n B) := by
  unfold sKind
  (repeat' split) <;> (with_reducible repeat (first | assumption | refine hi_up (by decide) ?_ | refine hi_sCake ?_ | refine hi_sC3 ?_ | refine hi_sC2 ?_ | refine hi_sC1 ?_ | refine hi_sPerson ?_ | refine hi_sHon ?_ | refine hi_sDeeds _ ?_ | refine hi_sDeed ?_ | refine hi_sSin ?_ | refine hi_sNew ?_ | refine hi_sAdd ?_ | refine hi_sNum ?_ | refine hi_sNumB ?_ | refine hi_sFail ?_ | refine hi_sNext ?_))
theorem hi_sOnB {A B : aS} {b : Nat → Int} {n : Int} (h : hiG A B) : hiG A (sOnB b n B) := by
  unfold sOnB
  (repeat' split) <;> (with_reducible repeat (first | assumption | refine hi_up (by decide) ?_ | refine hi_sKind ?_ | refine hi_sCake ?_ | refine hi_sC3 ?_ | refine hi_sC2 ?_ | refine hi_sC1 ?_ | refine hi_sPerson ?_ | refine hi_sHon ?_ | refine hi_sDeeds _ ?_ | refine hi_sDeed ?_ | refine hi_sSin ?_ | refine hi_sNew ?_ | refine hi_sAdd ?_ | refine hi_sNum ?_ | refine hi_sNumB ?_ | refine hi_sFail ?_ | refine hi_sNext ?_))
theorem hi_sOnce {A B : aS} {b : Nat → Int} {n : Int} {lo hi : Int} (h : hiG A B) : hiG A (sOnce b n lo hi B) := by
  unfold sOnce
  (repeat' split) <;> (with_reducible repeat (first | assumption | refine hi_up (by decide) ?_ | refine hi_sOnB ?_ | refine hi_sKind ?_ | refine hi_sCake ?_ | refine hi_sC3 ?_ | refine hi_sC2 ?_ | refine hi_sC1 ?_ | refine hi_sPerson ?_ | refine hi_sHon ?_ | refine hi_sDeeds _ ?_ | refine hi_sDeed ?_ | refine hi_sSin ?_ | refine hi_sNew ?_ | refine hi_sAdd ?_ | refine hi_sNum ?_ | refine hi_sNumB ?_ | refine hi_sFail ?_ | refine hi_sNext ?_))
theorem hi_gLeaf {A B : aS} {what : Int} (h : hiG A B) : hiG A (gLeaf what B) := by
  unfold gLeaf
  (repeat' split) <;> (with_reducible repeat (first | assumption | refine hi_up (by decide) ?_ | refine hi_sOnce ?_ | refine hi_sOnB ?_ | refine hi_sKind ?_ | refine hi_sCake ?_ | refine hi_sC3 ?_ | refine hi_sC2 ?_ | refine hi_sC1 ?_ | refine hi_sPerson ?_ | refine hi_sHon ?_ | refine hi_sDeeds _ ?_ | refine hi_sDeed ?_ | refine hi_sSin ?_ | refine hi_sNew ?_ | refine hi_sAdd ?_ | refine hi_sNum ?_ | refine hi_sNumB ?_ | refine hi_sFail ?_ | refine hi_sNext ?_))
theorem hi_gOp {A B : aS} {k : Int} (h : hiG A B) : hiG A (gOp k B) := by
  unfold gOp
  (repeat' split) <;> (with_reducible repeat (first | assumption | refine hi_up (by decide) ?_ | refine hi_gLeaf ?_ | refine hi_sOnce ?_ | refine hi_sOnB ?_ | refine hi_sKind ?_ | refine hi_sCake ?_ | refine hi_sC3 ?_ | refine hi_sC2 ?_ | refine hi_sC1 ?_ | refine hi_sPerson ?_ | refine hi_sHon ?_ | refine hi_sDeeds _ ?_ | refine hi_sDeed ?_ | refine hi_sSin ?_ | refine hi_sNew ?_ | refine hi_sAdd ?_ | refine hi_sNum ?_ | refine hi_sNumB ?_ | refine hi_sFail ?_ | refine hi_sNext ?_))
theorem hi_sWrite {A B : aS} {k what : Int} (h : hiG A B) : hiG A (sWrite k what B) := by
  unfold sWrite
  (repeat' split) <;> (with_reducible repeat (first | assumption | refine hi_up (by decide) ?_ | refine hi_gOp ?_ | refine hi_gLeaf ?_ | refine hi_sOnce ?_ | refine hi_sOnB ?_ | refine hi_sKind ?_ | refine hi_sCake ?_ | refine hi_sC3 ?_ | refine hi_sC2 ?_ | refine hi_sC1 ?_ | refine hi_sPerson ?_ | refine hi_sHon ?_ | refine hi_sDeeds _ ?_ | refine hi_sDeed ?_ | refine hi_sSin ?_ | refine hi_sNew ?_ | refine hi_sAdd ?_ | refine hi_sNum ?_ | refine hi_sNumB ?_ | refine hi_sFail ?_ | refine hi_sNext ?_))
theorem hi_sReln {r : Int} : ∀ (m : Nat) {A B : aS}, hiG A B → hiG A (sReln r m B)
  | 0, _, _, h => h
  | m + 1, A, B, h => by
    rw [sReln]
    split
    · exact hi_sReln m (hi_sWrite (hi_gOp (hi_up (by decide) h)))
    · exact h
theorem hi_sRel {A B : aS} {r : Int} (h : hiG A B) : hiG A (sRel r B) := by
  unfold sRel
  (repeat' split) <;> (with_reducible repeat (first | assumption | refine hi_up (by decide) ?_ | refine hi_sReln _ ?_ | refine hi_sWrite ?_ | refine hi_gOp ?_ | refine hi_gLeaf ?_ | refine hi_sOnce ?_ | refine hi_sOnB ?_ | refine hi_sKind ?_ | refine hi_sCake ?_ | refine hi_sC3 ?_ | refine hi_sC2 ?_ | refine hi_sC1 ?_ | refine hi_sPerson ?_ | refine hi_sHon ?_ | refine hi_sDeeds _ ?_ | refine hi_sDeed ?_ | refine hi_sSin ?_ | refine hi_sNew ?_ | refine hi_sAdd ?_ | refine hi_sNum ?_ | refine hi_sNumB ?_ | refine hi_sFail ?_ | refine hi_sNext ?_))
theorem hi_sCnt {A B : aS} {b : Nat → Int} {n : Int} (h : hiG A B) : hiG A (sCnt b n B) := by
  unfold sCnt
  (repeat' split) <;> (with_reducible repeat (first | assumption | refine hi_up (by decide) ?_ | refine hi_sRel ?_ | refine hi_sReln _ ?_ | refine hi_sWrite ?_ | refine hi_gOp ?_ | refine hi_gLeaf ?_ | refine hi_sOnce ?_ | refine hi_sOnB ?_ | refine hi_sKind ?_ | refine hi_sCake ?_ | refine hi_sC3 ?_ | refine hi_sC2 ?_ | refine hi_sC1 ?_ | refine hi_sPerson ?_ | refine hi_sHon ?_ | refine hi_sDeeds _ ?_ | refine hi_sDeed ?_ | refine hi_sSin ?_ | refine hi_sNew ?_ | refine hi_sAdd ?_ | refine hi_sNum ?_ | refine hi_sNumB ?_ | refine hi_sFail ?_ | refine hi_sNext ?_))
theorem hi_sCount {A B : aS} {b : Nat → Int} {n : Int} (h : hiG A B) : hiG A (sCount b n B) := by
  unfold sCount
  (repeat' split) <;> (with_reducible repeat (first | assumption | refine hi_up (by decide) ?_ | refine hi_sCnt ?_ | refine hi_sRel ?_ | refine hi_sReln _ ?_ | refine hi_sWrite ?_ | refine hi_gOp ?_ | refine hi_gLeaf ?_ | refine hi_sOnce ?_ | refine hi_sOnB ?_ | refine hi_sKind ?_ | refine hi_sCake ?_ | refine hi_sC3 ?_ | refine hi_sC2 ?_ | refine hi_sC1 ?_ | refine hi_sPerson ?_ | refine hi_sHon ?_ | refine hi_sDeeds _ ?_ | refine hi_sDeed ?_ | refine hi_sSin ?_ | refine hi_sNew ?_ | refine hi_sAdd ?_ | refine hi_sNum ?_ | refine hi_sNumB ?_ | refine hi_sFail ?_ | refine hi_sNext ?_))
theorem hi_sPush {A B : aS} {b : Nat → Int} {n : Int} {k : Int} (h : hiG A B) : hiG A (sPush b n k B) := by
  unfold sPush
  (repeat' split) <;> (with_reducible repeat (first | assumption | refine hi_up (by decide) ?_ | refine hi_sCount ?_ | refine hi_sCnt ?_ | refine hi_sRel ?_ | refine hi_sReln _ ?_ | refine hi_sWrite ?_ | refine hi_gOp ?_ | refine hi_gLeaf ?_ | refine hi_sOnce ?_ | refine hi_sOnB ?_ | refine hi_sKind ?_ | refine hi_sCake ?_ | refine hi_sC3 ?_ | refine hi_sC2 ?_ | refine hi_sC1 ?_ | refine hi_sPerson ?_ | refine hi_sHon ?_ | refine hi_sDeeds _ ?_ | refine hi_sDeed ?_ | refine hi_sSin ?_ | refine hi_sNew ?_ | refine hi_sAdd ?_ | refine hi_sNum ?_ | refine hi_sNumB ?_ | refine hi_sFail ?_ | refine hi_sNext ?_))
theorem hi_sOpen {A B : aS} {b : Nat → Int} {n : Int} (h : hiG A B) : hiG A (sOpen b n B) := by
  unfold sOpen
  (repeat' split) <;> (with_reducible repeat (first | assumption | refine hi_up (by decide) ?_ | refine hi_sPush ?_ | refine hi_sCount ?_ | refine hi_sCnt ?_ | refine hi_sRel ?_ | refine hi_sReln _ ?_ | refine hi_sWrite ?_ | refine hi_gOp ?_ | refine hi_gLeaf ?_ | refine hi_sOnce ?_ | refine hi_sOnB ?_ | refine hi_sKind ?_ | refine hi_sCake ?_ | refine hi_sC3 ?_ | refine hi_sC2 ?_ | refine hi_sC1 ?_ | refine hi_sPerson ?_ | refine hi_sHon ?_ | refine hi_sDeeds _ ?_ | refine hi_sDeed ?_ | refine hi_sSin ?_ | refine hi_sNew ?_ | refine hi_sAdd ?_ | refine hi_sNum ?_ | refine hi_sNumB ?_ | refine hi_sFail ?_ | refine hi_sNext ?_))
theorem hi_sLeaf {A B : aS} {b : Nat → Int} {n : Int} {k what : Int} (h : hiG A B) : hiG A (sLeaf b n k what B) := by
  unfold sLeaf
  (repeat' split) <;> (with_reducible repeat (first | assumption | refine hi_up (by decide) ?_ | refine hi_sOpen ?_ | refine hi_sPush ?_ | refine hi_sCount ?_ | refine hi_sCnt ?_ | refine hi_sRel ?_ | refine hi_sReln _ ?_ | refine hi_sWrite ?_ | refine hi_gOp ?_ | refine hi_gLeaf ?_ | refine hi_sOnce ?_ | refine hi_sOnB ?_ | refine hi_sKind ?_ | refine hi_sCake ?_ | refine hi_sC3 ?_ | refine hi_sC2 ?_ | refine hi_sC1 ?_ | refine hi_sPerson ?_ | refine hi_sHon ?_ | refine hi_sDeeds _ ?_ | refine hi_sDeed ?_ | refine hi_sSin ?_ | refine hi_sNew ?_ | refine hi_sAdd ?_ | refine hi_sNum ?_ | refine hi_sNumB ?_ | refine hi_sFail ?_ | refine hi_sNext ?_))
theorem hi_sNot {A B : aS} {b : Nat → Int} {n : Int} (h : hiG A B) : hiG A (sNot b n B) := by
  unfold sNot
  (repeat' split) <;> (with_reducible repeat (first | assumption | refine hi_up (by decide) ?_ | refine hi_sLeaf ?_ | refine hi_sOpen ?_ | refine hi_sPush ?_ | refine hi_sCount ?_ | refine hi_sCnt ?_ | refine hi_sRel ?_ | refine hi_sReln _ ?_ | refine hi_sWrite ?_ | refine hi_gOp ?_ | refine hi_gLeaf ?_ | refine hi_sOnce ?_ | refine hi_sOnB ?_ | refine hi_sKind ?_ | refine hi_sCake ?_ | refine hi_sC3 ?_ | refine hi_sC2 ?_ | refine hi_sC1 ?_ | refine hi_sPerson ?_ | refine hi_sHon ?_ | refine hi_sDeeds _ ?_ | refine hi_sDeed ?_ | refine hi_sSin ?_ | refine hi_sNew ?_ | refine hi_sAdd ?_ | refine hi_sNum ?_ | refine hi_sNumB ?_ | refine hi_sFail ?_ | refine hi_sNext ?_))
theorem hi_sSide {A B : aS} {b : Nat → Int} {n : Int} (h : hiG A B) : hiG A (sSide b n B) := by
  unfold sSide
  (repeat' split) <;> (with_reducible repeat (first | assumption | refine hi_up (by decide) ?_ | refine hi_sNot ?_ | refine hi_sLeaf ?_ | refine hi_sOpen ?_ | refine hi_sPush ?_ | refine hi_sCount ?_ | refine hi_sCnt ?_ | refine hi_sRel ?_ | refine hi_sReln _ ?_ | refine hi_sWrite ?_ | refine hi_gOp ?_ | refine hi_gLeaf ?_ | refine hi_sOnce ?_ | refine hi_sOnB ?_ | refine hi_sKind ?_ | refine hi_sCake ?_ | refine hi_sC3 ?_ | refine hi_sC2 ?_ | refine hi_sC1 ?_ | refine hi_sPerson ?_ | refine hi_sHon ?_ | refine hi_sDeeds _ ?_ | refine hi_sDeed ?_ | refine hi_sSin ?_ | refine hi_sNew ?_ | refine hi_sAdd ?_ | refine hi_sNum ?_ | refine hi_sNumB ?_ | refine hi_sFail ?_ | refine hi_sNext ?_))
theorem hi_sJB {A B : aS} {b : Nat → Int} {n : Int} {k : Int} (h : hiG A B) : hiG A (sJB b n k B) := by
  unfold sJB
  (repeat' split) <;> (with_reducible repeat (first | assumption | refine hi_up (by decide) ?_ | refine hi_sSide ?_ | refine hi_sNot ?_ | refine hi_sLeaf ?_ | refine hi_sOpen ?_ | refine hi_sPush ?_ | refine hi_sCount ?_ | refine hi_sCnt ?_ | refine hi_sRel ?_ | refine hi_sReln _ ?_ | refine hi_sWrite ?_ | refine hi_gOp ?_ | refine hi_gLeaf ?_ | refine hi_sOnce ?_ | refine hi_sOnB ?_ | refine hi_sKind ?_ | refine hi_sCake ?_ | refine hi_sC3 ?_ | refine hi_sC2 ?_ | refine hi_sC1 ?_ | refine hi_sPerson ?_ | refine hi_sHon ?_ | refine hi_sDeeds _ ?_ | refine hi_sDeed ?_ | refine hi_sSin ?_ | refine hi_sNew ?_ | refine hi_sAdd ?_ | refine hi_sNum ?_ | refine hi_sNumB ?_ | refine hi_sFail ?_ | refine hi_sNext ?_))
theorem hi_sJR {A B : aS} {k : Int} (h : hiG A B) : hiG A (sJR k B) := by
  unfold sJR
  (repeat' split) <;> (with_reducible repeat (first | assumption | refine hi_up (by decide) ?_ | refine hi_sJB ?_ | refine hi_sSide ?_ | refine hi_sNot ?_ | refine hi_sLeaf ?_ | refine hi_sOpen ?_ | refine hi_sPush ?_ | refine hi_sCount ?_ | refine hi_sCnt ?_ | refine hi_sRel ?_ | refine hi_sReln _ ?_ | refine hi_sWrite ?_ | refine hi_gOp ?_ | refine hi_gLeaf ?_ | refine hi_sOnce ?_ | refine hi_sOnB ?_ | refine hi_sKind ?_ | refine hi_sCake ?_ | refine hi_sC3 ?_ | refine hi_sC2 ?_ | refine hi_sC1 ?_ | refine hi_sPerson ?_ | refine hi_sHon ?_ | refine hi_sDeeds _ ?_ | refine hi_sDeed ?_ | refine hi_sSin ?_ | refine hi_sNew ?_ | refine hi_sAdd ?_ | refine hi_sNum ?_ | refine hi_sNumB ?_ | refine hi_sFail ?_ | refine hi_sNext ?_))
theorem hi_sJoint {A B : aS} {b : Nat → Int} {n : Int} {k : Int} (h : hiG A B) : hiG A (sJoint b n k B) := by
  unfold sJoint
  (repeat' split) <;> (with_reducible repeat (first | assumption | refine hi_up (by decide) ?_ | refine hi_sJR ?_ | refine hi_sJB ?_ | refine hi_sSide ?_ | refine hi_sNot ?_ | refine hi_sLeaf ?_ | refine hi_sOpen ?_ | refine hi_sPush ?_ | refine hi_sCount ?_ | refine hi_sCnt ?_ | refine hi_sRel ?_ | refine hi_sReln _ ?_ | refine hi_sWrite ?_ | refine hi_gOp ?_ | refine hi_gLeaf ?_ | refine hi_sOnce ?_ | refine hi_sOnB ?_ | refine hi_sKind ?_ | refine hi_sCake ?_ | refine hi_sC3 ?_ | refine hi_sC2 ?_ | refine hi_sC1 ?_ | refine hi_sPerson ?_ | refine hi_sHon ?_ | refine hi_sDeeds _ ?_ | refine hi_sDeed ?_ | refine hi_sSin ?_ | refine hi_sNew ?_ | refine hi_sAdd ?_ | refine hi_sNum ?_ | refine hi_sNumB ?_ | refine hi_sFail ?_ | refine hi_sNext ?_))
theorem hi_sClose {A B : aS} {b : Nat → Int} {n : Int} (h : hiG A B) : hiG A (sClose b n B) := by
  unfold sClose
  (repeat' split) <;> (with_reducible repeat (first | assumption | refine hi_up (by decide) ?_ | refine hi_sJoint ?_ | refine hi_sJR ?_ | refine hi_sJB ?_ | refine hi_sSide ?_ | refine hi_sNot ?_ | refine hi_sLeaf ?_ | refine hi_sOpen ?_ | refine hi_sPush ?_ | refine hi_sCount ?_ | refine hi_sCnt ?_ | refine hi_sRel ?_ | refine hi_sReln _ ?_ | refine hi_sWrite ?_ | refine hi_gOp ?_ | refine hi_gLeaf ?_ | refine hi_sOnce ?_ | refine hi_sOnB ?_ | refine hi_sKind ?_ | refine hi_sCake ?_ | refine hi_sC3 ?_ | refine hi_sC2 ?_ | refine hi_sC1 ?_ | refine hi_sPerson ?_ | refine hi_sHon ?_ | refine hi_sDeeds _ ?_ | refine hi_sDeed ?_ | refine hi_sSin ?_ | refine hi_sNew ?_ | refine hi_sAdd ?_ | refine hi_sNum ?_ | refine hi_sNumB ?_ | refine hi_sFail ?_ | refine hi_sNext ?_))
theorem hi_sBehind {A B : aS} {b : Nat → Int} {n : Int} (h : hiG A B) : hiG A (sBehind b n B) := by
  unfold sBehind
  (repeat' split) <;> (with_reducible repeat (first | assumption | refine hi_up (by decide) ?_ | refine hi_sClose ?_ | refine hi_sJoint ?_ | refine hi_sJR ?_ | refine hi_sJB ?_ | refine hi_sSide ?_ | refine hi_sNot ?_ | refine hi_sLeaf ?_ | refine hi_sOpen ?_ | refine hi_sPush ?_ | refine hi_sCount ?_ | refine hi_sCnt ?_ | refine hi_sRel ?_ | refine hi_sReln _ ?_ | refine hi_sWrite ?_ | refine hi_gOp ?_ | refine hi_gLeaf ?_ | refine hi_sOnce ?_ | refine hi_sOnB ?_ | refine hi_sKind ?_ | refine hi_sCake ?_ | refine hi_sC3 ?_ | refine hi_sC2 ?_ | refine hi_sC1 ?_ | refine hi_sPerson ?_ | refine hi_sHon ?_ | refine hi_sDeeds _ ?_ | refine hi_sDeed ?_ | refine hi_sSin ?_ | refine hi_sNew ?_ | refine hi_sAdd ?_ | refine hi_sNum ?_ | refine hi_sNumB ?_ | refine hi_sFail ?_ | refine hi_sNext ?_))
theorem hi_sEL {b : Nat → Int} {n : Int} : ∀ (m : Nat) (go : Int) {A B : aS}, hiG A B → hiG A (sEL b n m go B)
  | 0, _, _, _, h => h
  | m + 1, go, A, B, h => by
    rw [sEL]
    split
    · split
      · exact hi_sEL m go (hi_sSide h)
      · exact hi_sEL m _ (hi_sBehind h)
    · exact h
theorem hi_sB0 {A B : aS} (h : hiG A B) : hiG A (sB0 B) := by
  unfold sB0
  (repeat' split) <;> (with_reducible repeat (first | assumption | refine hi_up (by decide) ?_ | refine hi_sEL _ _ ?_ | refine hi_sBehind ?_ | refine hi_sClose ?_ | refine hi_sJoint ?_ | refine hi_sJR ?_ | refine hi_sJB ?_ | refine hi_sSide ?_ | refine hi_sNot ?_ | refine hi_sLeaf ?_ | refine hi_sOpen ?_ | refine hi_sPush ?_ | refine hi_sCount ?_ | refine hi_sCnt ?_ | refine hi_sRel ?_ | refine hi_sReln _ ?_ | refine hi_sWrite ?_ | refine hi_gOp ?_ | refine hi_gLeaf ?_ | refine hi_sOnce ?_ | refine hi_sOnB ?_ | refine hi_sKind ?_ | refine hi_sCake ?_ | refine hi_sC3 ?_ | refine hi_sC2 ?_ | refine hi_sC1 ?_ | refine hi_sPerson ?_ | refine hi_sHon ?_ | refine hi_sDeeds _ ?_ | refine hi_sDeed ?_ | refine hi_sSin ?_ | refine hi_sNew ?_ | refine hi_sAdd ?_ | refine hi_sNum ?_ | refine hi_sNumB ?_ | refine hi_sFail ?_ | refine hi_sNext ?_))
theorem hi_sLB {A B : aS} {k : Int} (h : hiG A B) : hiG A (sLB k B) := by
  unfold sLB
  (repeat' split) <;> (with_reducible repeat (first | assumption | refine hi_up (by decide) ?_ | refine hi_sB0 ?_ | refine hi_sEL _ _ ?_ | refine hi_sBehind ?_ | refine hi_sClose ?_ | refine hi_sJoint ?_ | refine hi_sJR ?_ | refine hi_sJB ?_ | refine hi_sSide ?_ | refine hi_sNot ?_ | refine hi_sLeaf ?_ | refine hi_sOpen ?_ | refine hi_sPush ?_ | refine hi_sCount ?_ | refine hi_sCnt ?_ | refine hi_sRel ?_ | refine hi_sReln _ ?_ | refine hi_sWrite ?_ | refine hi_gOp ?_ | refine hi_gLeaf ?_ | refine hi_sOnce ?_ | refine hi_sOnB ?_ | refine hi_sKind ?_ | refine hi_sCake ?_ | refine hi_sC3 ?_ | refine hi_sC2 ?_ | refine hi_sC1 ?_ | refine hi_sPerson ?_ | refine hi_sHon ?_ | refine hi_sDeeds _ ?_ | refine hi_sDeed ?_ | refine hi_sSin ?_ | refine hi_sNew ?_ | refine hi_sAdd ?_ | refine hi_sNum ?_ | refine hi_sNumB ?_ | refine hi_sFail ?_ | refine hi_sNext ?_))
theorem hi_sBeg {A B : aS} {k : Int} (h : hiG A B) : hiG A (sBeg k B) := by
  unfold sBeg
  (repeat' split) <;> (with_reducible repeat (first | assumption | refine hi_up (by decide) ?_ | refine hi_sLB ?_ | refine hi_sB0 ?_ | refine hi_sEL _ _ ?_ | refine hi_sBehind ?_ | refine hi_sClose ?_ | refine hi_sJoint ?_ | refine hi_sJR ?_ | refine hi_sJB ?_ | refine hi_sSide ?_ | refine hi_sNot ?_ | refine hi_sLeaf ?_ | refine hi_sOpen ?_ | refine hi_sPush ?_ | refine hi_sCount ?_ | refine hi_sCnt ?_ | refine hi_sRel ?_ | refine hi_sReln _ ?_ | refine hi_sWrite ?_ | refine hi_gOp ?_ | refine hi_gLeaf ?_ | refine hi_sOnce ?_ | refine hi_sOnB ?_ | refine hi_sKind ?_ | refine hi_sCake ?_ | refine hi_sC3 ?_ | refine hi_sC2 ?_ | refine hi_sC1 ?_ | refine hi_sPerson ?_ | refine hi_sHon ?_ | refine hi_sDeeds _ ?_ | refine hi_sDeed ?_ | refine hi_sSin ?_ | refine hi_sNew ?_ | refine hi_sAdd ?_ | refine hi_sNum ?_ | refine hi_sNumB ?_ | refine hi_sFail ?_ | refine hi_sNext ?_))
theorem hi_sFin {A B : aS} {k : Int} (h : hiG A B) : hiG A (sFin k B) := by
  unfold sFin
  (repeat' split) <;> (with_reducible repeat (first | assumption | refine hi_up (by decide) ?_ | refine hi_sBeg ?_ | refine hi_sLB ?_ | refine hi_sB0 ?_ | refine hi_sEL _ _ ?_ | refine hi_sBehind ?_ | refine hi_sClose ?_ | refine hi_sJoint ?_ | refine hi_sJR ?_ | refine hi_sJB ?_ | refine hi_sSide ?_ | refine hi_sNot ?_ | refine hi_sLeaf ?_ | refine hi_sOpen ?_ | refine hi_sPush ?_ | refine hi_sCount ?_ | refine hi_sCnt ?_ | refine hi_sRel ?_ | refine hi_sReln _ ?_ | refine hi_sWrite ?_ | refine hi_gOp ?_ | refine hi_gLeaf ?_ | refine hi_sOnce ?_ | refine hi_sOnB ?_ | refine hi_sKind ?_ | refine hi_sCake ?_ | refine hi_sC3 ?_ | refine hi_sC2 ?_ | refine hi_sC1 ?_ | refine hi_sPerson ?_ | refine hi_sHon ?_ | refine hi_sDeeds _ ?_ | refine hi_sDeed ?_ | refine hi_sSin ?_ | refine hi_sNew ?_ | refine hi_sAdd ?_ | refine hi_sNum ?_ | refine hi_sNumB ?_ | refine hi_sFail ?_ | refine hi_sNext ?_))
theorem hi_sE {A B : aS} {b : Nat → Int} {n : Int} {k : Int} (h : hiG A B) : hiG A (sE b n k B) := by
  unfold sE
  (repeat' split) <;> (with_reducible repeat (first | assumption | refine hi_up (by decide) ?_ | refine hi_sFin ?_ | refine hi_sBeg ?_ | refine hi_sLB ?_ | refine hi_sB0 ?_ | refine hi_sEL _ _ ?_ | refine hi_sBehind ?_ | refine hi_sClose ?_ | refine hi_sJoint ?_ | refine hi_sJR ?_ | refine hi_sJB ?_ | refine hi_sSide ?_ | refine hi_sNot ?_ | refine hi_sLeaf ?_ | refine hi_sOpen ?_ | refine hi_sPush ?_ | refine hi_sCount ?_ | refine hi_sCnt ?_ | refine hi_sRel ?_ | refine hi_sReln _ ?_ | refine hi_sWrite ?_ | refine hi_gOp ?_ | refine hi_gLeaf ?_ | refine hi_sOnce ?_ | refine hi_sOnB ?_ | refine hi_sKind ?_ | refine hi_sCake ?_ | refine hi_sC3 ?_ | refine hi_sC2 ?_ | refine hi_sC1 ?_ | refine hi_sPerson ?_ | refine hi_sHon ?_ | refine hi_sDeeds _ ?_ | refine hi_sDeed ?_ | refine hi_sSin ?_ | refine hi_sNew ?_ | refine hi_sAdd ?_ | refine hi_sNum ?_ | refine hi_sNumB ?_ | refine hi_sFail ?_ | refine hi_sNext ?_))
theorem hi_sBody {A B : aS} {b : Nat → Int} {n : Int} (h : hiG A B) : hiG A (sBody b n B) := by
  unfold sBody
  (repeat' split) <;> (with_reducible repeat (first | assumption | refine hi_up (by decide) ?_ | refine hi_sE ?_ | refine hi_sFin ?_ | refine hi_sBeg ?_ | refine hi_sLB ?_ | refine hi_sB0 ?_ | refine hi_sEL _ _ ?_ | refine hi_sBehind ?_ | refine hi_sClose ?_ | refine hi_sJoint ?_ | refine hi_sJR ?_ | refine hi_sJB ?_ | refine hi_sSide ?_ | refine hi_sNot ?_ | refine hi_sLeaf ?_ | refine hi_sOpen ?_ | refine hi_sPush ?_ | refine hi_sCount ?_ | refine hi_sCnt ?_ | refine hi_sRel ?_ | refine hi_sReln _ ?_ | refine hi_sWrite ?_ | refine hi_gOp ?_ | refine hi_gLeaf ?_ | refine hi_sOnce ?_ | refine hi_sOnB ?_ | refine hi_sKind ?_ | refine hi_sCake ?_ | refine hi_sC3 ?_ | refine hi_sC2 ?_ | refine hi_sC1 ?_ | refine hi_sPerson ?_ | refine hi_sHon ?_ | refine hi_sDeeds _ ?_ | refine hi_sDeed ?_ | refine hi_sSin ?_ | refine hi_sNew ?_ | refine hi_sAdd ?_ | refine hi_sNum ?_ | refine hi_sNumB ?_ | refine hi_sFail ?_ | refine hi_sNext ?_))
theorem hi_sSemi {A B : aS} {b : Nat → Int} {n : Int} (h : hiG A B) : hiG A (sSemi b n B) := by
  unfold sSemi
  (repeat' split) <;> (with_reducible repeat (first | assumption | refine hi_up (by decide) ?_ | refine hi_sBody ?_ | refine hi_sE ?_ | refine hi_sFin ?_ | refine hi_sBeg ?_ | refine hi_sLB ?_ | refine hi_sB0 ?_ | refine hi_sEL _ _ ?_ | refine hi_sBehind ?_ | refine hi_sClose ?_ | refine hi_sJoint ?_ | refine hi_sJR ?_ | refine hi_sJB ?_ | refine hi_sSide ?_ | refine hi_sNot ?_ | refine hi_sLeaf ?_ | refine hi_sOpen ?_ | refine hi_sPush ?_ | refine hi_sCount ?_ | refine hi_sCnt ?_ | refine hi_sRel ?_ | refine hi_sReln _ ?_ | refine hi_sWrite ?_ | refine hi_gOp ?_ | refine hi_gLeaf ?_ | refine hi_sOnce ?_ | refine hi_sOnB ?_ | refine hi_sKind ?_ | refine hi_sCake ?_ | refine hi_sC3 ?_ | refine hi_sC2 ?_ | refine hi_sC1 ?_ | refine hi_sPerson ?_ | refine hi_sHon ?_ | refine hi_sDeeds _ ?_ | refine hi_sDeed ?_ | refine hi_sSin ?_ | refine hi_sNew ?_ | refine hi_sAdd ?_ | refine hi_sNum ?_ | refine hi_sNumB ?_ | refine hi_sFail ?_ | refine hi_sNext ?_))
theorem hi_sLine {A B : aS} {b : Nat → Int} {n : Int} (h : hiG A B) : hiG A (sLine b n B) := by
  unfold sLine
  (repeat' split) <;> (with_reducible repeat (first | assumption | refine hi_up (by decide) ?_ | refine hi_sSemi ?_ | refine hi_sBody ?_ | refine hi_sE ?_ | refine hi_sFin ?_ | refine hi_sBeg ?_ | refine hi_sLB ?_ | refine hi_sB0 ?_ | refine hi_sEL _ _ ?_ | refine hi_sBehind ?_ | refine hi_sClose ?_ | refine hi_sJoint ?_ | refine hi_sJR ?_ | refine hi_sJB ?_ | refine hi_sSide ?_ | refine hi_sNot ?_ | refine hi_sLeaf ?_ | refine hi_sOpen ?_ | refine hi_sPush ?_ | refine hi_sCount ?_ | refine hi_sCnt ?_ | refine hi_sRel ?_ | refine hi_sReln _ ?_ | refine hi_sWrite ?_ | refine hi_gOp ?_ | refine hi_gLeaf ?_ | refine hi_sOnce ?_ | refine hi_sOnB ?_ | refine hi_sKind ?_ | refine hi_sCake ?_ | refine hi_sC3 ?_ | refine hi_sC2 ?_ | refine hi_sC1 ?_ | refine hi_sPerson ?_ | refine hi_sHon ?_ | refine hi_sDeeds _ ?_ | refine hi_sDeed ?_ | refine hi_sSin ?_ | refine hi_sNew ?_ | refine hi_sAdd ?_ | refine hi_sNum ?_ | refine hi_sNumB ?_ | refine hi_sFail ?_ | refine hi_sNext ?_))
theorem hi_sLN {b : Nat → Int} {n : Int} : ∀ (m : Nat) {A B : aS}, hiG A B → hiG A (sLN b n m B)
  | 0, _, _, h => h
  | m + 1, A, B, h => by
    rw [sLN]
    split
    · exact hi_sLN m (hi_sLine h)
    · exact h
/-! one telling is read into, all others stay -/
def OF (Γ : zΓ) (w t : Nat) (G G1 : zH) : Prop := ∀ f a j : Nat, 4 ≤ f → f < 22 → a ≠ cad Γ w t f → G1.1 (creg f) a j = G.1 (creg f) a j
def AO (Γ : zΓ) (w t : Nat) (A : aS) (G : zH) : Prop := ∀ f a j : Nat, 4 ≤ f → f < 22 → a ≠ cad Γ w t f → A (100 + 27 * a + f) j = G.1 (creg f) a j
theorem OF_rf {Γ : zΓ} {w t : Nat} {G : zH} : OF Γ w t G G := fun _ _ _ _ _ _ => rfl
theorem OF_tr {Γ : zΓ} {w t : Nat} {G G1 G2 : zH} (h : OF Γ w t G G1) (h2 : OF Γ w t G1 G2) : OF Γ w t G G2 := fun f a j h4 hf ha => (h2 f a j h4 hf ha).trans (h f a j h4 hf ha)
theorem OF_sn {Γ : zΓ} {w t : Nat} {G G1 G2 : zH} {rs : List Nat} (hs : ∀ r : Nat, r ∉ rs → G2.1 r = G1.1 r) (hr : ∀ f : Nat, f < 22 → 4 ≤ f → creg f ∉ rs) (h : OF Γ w t G G1) : OF Γ w t G G2 := fun f a j h4 hf ha => by
  rw [hs _ (hr f hf h4)]
  exact h f a j h4 hf ha
theorem OF_sm {Γ : zΓ} {w t : Nat} {G G1 G2 : zH} {rs : List Nat} (hs : zsm rs G1 G2) (hr : ∀ f : Nat, f < 22 → 4 ≤ f → creg f ∉ rs) (h : OF Γ w t G G1) : OF Γ w t G G2 := OF_sn hs.1 hr h
theorem OF_I {Γ : zΓ} {w t : Nat} {G G1 : zH} {r a i : Nat} {x : Int} (hr : ∀ f : Nat, f < 22 → 4 ≤ f → creg f ≠ r) (h : OF Γ w t G G1) : OF Γ w t G (zuI G1 r a i x) := fun f a' j h4 hf ha => by
  rw [zuI_nf (hr f hf h4)]
  exact h f a' j h4 hf ha
theorem OF_w {Γ : zΓ} {w t : Nat} {G G1 : zH} {f j : Nat} {v : Int} (hf : f < 22) (h : OF Γ w t G G1) : OF Γ w t G (zuI G1 (creg f) (cad Γ w t f) j v) := fun f' a j' h4 hf' ha => by
  rw [zuI_1, if_neg (fun q3 => by have q4 := creg_ij f' (by omega) f (by omega) q3.1; subst q4; exact ha q3.2.1)]
  exact h f' a j' h4 hf' ha
theorem OF_fl {Γ : zΓ} {w t : Nat} {G G1 G2 : zH} {r f : Nat} (hf : f < 22) (hr : r = creg f) (hs : zsm [r] G1 G2) (ho : ∀ a j : Nat, a ≠ cad Γ w t f → G2.1 r a j = G1.1 r a j) (h : OF Γ w t G G1) : OF Γ w t G G2 := fun f' a j h4 hf' ha => by
  subst hr
  by_cases q : f' = f
  · subst q
    rw [ho a j ha]
    exact h f' a j h4 hf' ha
  · rw [hs.1 (creg f') (fun q2 => q (creg_ij f' (by omega) f (by omega) (List.mem_singleton.mp q2)))]
    exact h f' a j h4 hf' ha
theorem lw_n0 : ∀ f : Nat, f < 22 → (f = 16 ∨ f = 17 ∨ f = 20 ∨ f = 21) ∨ creg f ∉ [206, 207, 2016, 2017] := by decide +kernel
theorem lw_n (f : Nat) (hf : f < 22) (h1 : f ≠ 16) (h2 : f ≠ 17) (h3 : f ≠ 20) (h4 : f ≠ 21) : creg f ∉ [206, 207, 2016, 2017] := (lw_n0 f hf).elim (fun q => by omega) id
theorem OF_lw {Γ : zΓ} {w t : Nat} {G G1 G2 : zH} (hs : zsm [206, 207, 2016, 2017] G1 G2) (ho : ∀ a j : Nat, (a ≠ Γ.2.1 (Γ.2.1 t 0) 2 → G2.1 2016 a j = G1.1 2016 a j) ∧ (a ≠ Γ.2.1 (Γ.2.1 t 0) 3 → G2.1 2017 a j = G1.1 2017 a j) ∧ (a ≠ Γ.2.1 t 0 → G2.1 206 a j = G1.1 206 a j ∧ G2.1 207 a j = G1.1 207 a j)) (h : OF Γ w t G G1) : OF Γ w t G G2 := fun f a j h4 hf ha => by
  have h9 := h f a j h4 hf ha
  by_cases q1 : f = 16
  · subst q1
    exact ((ho a j).1 ha).trans h9
  · by_cases q2 : f = 17
    · subst q2
      exact ((ho a j).2.1 ha).trans h9
    · by_cases q3 : f = 20
      · subst q3
        exact ((ho a j).2.2 ha).1.trans h9
      · by_cases q4 : f = 21
        · subst q4
          exact ((ho a j).2.2 ha).2.trans h9
        · rw [hs.1 _ (lw_n f hf q1 q2 q3 q4)]
          exact h9
theorem QC_OF {b : Nat → Int} {n : Int} {N : Nat} {Γ : zΓ} {w t : Nat} {A B : aS} {G G1 : zH} (hQ : QC b n N Γ w t B G1) (hh : hiG A B) (ha : AO Γ w t A G) : QC b n N Γ w t B G1 ∧ OF Γ w t G G1 := ⟨hQ, fun f a j h4 hf h9 => by
  rw [hQ.1.1.2 f a j (by omega) h9, hh _ _ (by omega)]
  exact ha f a j h4 hf h9⟩
theorem QN_start {b : Nat → Int} {n : Int} {N : Nat} {Γ : zΓ} {w t : Nat} {G G0 : zH} (hI : G.2.2 401 w = t) (hK : TKN b n N Γ w G) (h0 : G.1 402 w 0 = -1) (h1 : G.1 407 w 0 = 0) (h2 : G.1 408 w 0 = -1) (h3 : G.1 406 w 0 = 0)
    (hc : (∀ j : Nat, j < 4 → G.1 2037 (Γ.2.1 t 2) j = 0) ∧ (∀ j : Nat, j < 20 → G.1 2040 (Γ.2.1 t 5) j = 0) ∧ (∀ j : Nat, j < 7 → G.1 2016 (Γ.2.1 (Γ.2.1 t 0) 2) j = 0 ∧ G.1 2017 (Γ.2.1 (Γ.2.1 t 0) 3) j = 0) ∧ G.1 206 (Γ.2.1 t 0) 0 = 0 ∧ G.1 207 (Γ.2.1 t 0) 0 = 0 ∧ G.1 609 t 0 = 100 ∧ G.1 610 t 0 = 5 ∧ G.1 611 t 0 = 0 ∧ G.1 612 t 0 = 0) (ho : OF Γ w t G0 G) : ∃ A0 : aS, sCl A0 ∧ AO Γ w t A0 G0 ∧ QN b n N Γ w t A0 G := by
  obtain ⟨c1, c2, c3, c4, c5, c6, c7, c8, c9⟩ := hc
  let A0 : aS := fun f j => if f < 100 then G.1 (creg f) (cad Γ w t f) j else G.1 (creg ((f - 100) % 27)) ((f - 100) / 27) j
  have e : ∀ f j : Nat, f < 100 → A0 f j = G.1 (creg f) (cad Γ w t f) j := fun f j h => if_pos h
  have e2 : ∀ f a j : Nat, f < 27 → A0 (100 + 27 * a + f) j = G.1 (creg f) a j := fun f a j h => by
    show (if 100 + 27 * a + f < 100 then _ else _) = _
    rw [if_neg (by omega), show (100 + 27 * a + f - 100) % 27 = f by omega, show (100 + 27 * a + f - 100) / 27 = a by omega]
  refine ⟨A0, ⟨(e 0 0 (by decide)).trans h0, (e 1 0 (by decide)).trans h1, (e 2 0 (by decide)).trans h2, (e 3 0 (by decide)).trans h3, fun j hj => (e 4 j (by decide)).trans (c1 j hj), fun j hj => (e 8 j (by decide)).trans (c2 j hj), fun j hj => ⟨(e 16 j (by decide)).trans (c3 j hj).1, (e 17 j (by decide)).trans (c3 j hj).2⟩, (e 20 0 (by decide)).trans c4, (e 21 0 (by decide)).trans c5, (e 12 0 (by decide)).trans c6, (e 13 0 (by decide)).trans c7, (e 14 0 (by decide)).trans c8, (e 15 0 (by decide)).trans c9⟩, fun f a j h4 hf ha => (e2 f a j (by omega)).trans (ho f a j h4 hf ha), ⟨⟨hI, fun f a j hf _ => (e2 f a j hf).symm⟩, fun f j hf => (e f j (by omega)).symm⟩, hK, ?_⟩
  have e9 : A0 0 0 = G.1 402 w 0 := e 0 0 (by decide)
  rw [e9]
  omega

set_option maxHeartbeats 4000000 in
set_option maxRecDepth 100000 in
theorem c_J7_fill_53178F {l : Launch} {Γ : zΓ} {G : zH} {t a n : Nat} {k : Int} (hX : zXs Γ) (hz : zat t = (0, n)) (ht : t < 200) (hn : n ≤ 10000) (hv : ∀ i, (zrg (2000 + t) i).1 ≤ k ∧ k ≤ (zrg (2000 + t) i).2) : zMet l Γ yJ7_fill_53178 cJ7_fill_53178 4 none 0 [zr t a, zi k] G (zpv (fun G' => zsm [2000 + t] G G' ∧ ((∀ j : Nat, j < n → G'.1 (2000 + t) a j = k) ∧ ∀ a2 j : Nat, a2 ≠ a → G'.1 (2000 + t) a2 j = G.1 (2000 + t) a2 j))) := by
  refine zMet_of RJ7 hX (by decide) rfl (Nat.le_of_ble_eq_true rfl) ?_
  intro p e s m args below meth c C hr hlk
  show Z p l e (zrm 0) s m args below meth c Γ 4 0 0 (MQ below (zQc Γ (zpv (fun G' => zsm [2000 + t] G G' ∧ ((∀ j : Nat, j < n → G'.1 (2000 + t) a j = k) ∧ ∀ a2 j : Nat, a2 ≠ a → G'.1 (2000 + t) a2 j = G.1 (2000 + t) a2 j)))) args s 0 0 (zA Γ)) 0 [some (zr t a), some (zi k), none, none] [] G
  refine zs_loc 1 rfl (fun ha1 hb1 => ?_)
  refine zs_iconst (pc := 0) C dJ7_fill_53178_0 (by decide) ?_
  refine zs_istore_n (pc := 1) C dJ7_fill_53178_1 (by decide) ?_
  dsimp only [zset, zclr, znone]
  refine zs_aload_n (pc := 2) C dJ7_fill_53178_2 rfl ?_
  refine zs_alen (pc := 3) C dJ7_fill_53178_3 hz ht (by omega) ?_
  refine zs_istore_n (pc := 4) C dJ7_fill_53178_4 (by decide) ?_
  dsimp only [zset, zclr, znone]
  have L5 : ∀ (nn : Nat) (x2 : Int) (G1 : zH), (0 ≤ x2 ∧ x2 ≤ n) → (zsm [2000 + t] G G1) → (∀ j : Nat, (j : Int) < x2 → G1.1 (2000 + t) a j = k) → (∀ a2 j : Nat, a2 ≠ a → G1.1 (2000 + t) a2 j = G.1 (2000 + t) a2 j) → ((n : Int) - x2).toNat < nn → Z p l e (zrm 0) s m args below meth c Γ 4 0 0 (MQ below (zQc Γ (zpv (fun G' => zsm [2000 + t] G G' ∧ ((∀ j : Nat, j < n → G'.1 (2000 + t) a j = k) ∧ ∀ a2 j : Nat, a2 ≠ a → G'.1 (2000 + t) a2 j = G.1 (2000 + t) a2 j)))) args s 0 0 (zA Γ)) 5 [some (zr t a), some (zi k), some (zi x2), some (zi (n : Int))] [] G1 := by
    intro nn
    induction nn with
    | zero => intro x2 G1 h5_0 h5_1 h5_2 h5_3 hm; exact absurd hm (Nat.not_lt_zero _)
    | succ nn ih5 =>
      intro x2 G1 h5_0 h5_1 h5_2 h5_3 hm5
      refine zs_iload_n (pc := 5) C dJ7_fill_53178_5 rfl ?_
      refine zs_iload_n (pc := 6) C dJ7_fill_53178_6 rfl ?_
      refine zs_icmp_ge (tgt := 20) (pc := 7) C dJ7_fill_53178_7 (by decide) (fun h7 => ?_) (fun h7 => ?_)
      · skip
        exact zs_vret (pc := 20) C hr hlk dJ7_fill_53178_20 ⟨h5_1, fun j hj => h5_2 j (by omega), h5_3⟩
      · skip
        refine zs_aload_n (pc := 10) C dJ7_fill_53178_10 rfl ?_
        refine zs_iload_n (pc := 11) C dJ7_fill_53178_11 rfl ?_
        refine zs_iload_n (pc := 12) C dJ7_fill_53178_12 rfl ?_
        refine zs_iast (r := (2000 + t)) (pc := 13) C dJ7_fill_53178_13 hz ht (by omega) rfl rfl (hv _) ?_
        first | refine zs_iinc (pc := 14) C dJ7_fill_53178_14 rfl (by decide) (by omega) ?_ | refine zs_iincF (pc := 14) C dJ7_fill_53178_14 rfl (by decide) (fun z14 hz141 hz142 => ?_)
        dsimp only [zset, zclr, znone]
        refine zs_goto (tgt := 5) (pc := 17) C dJ7_fill_53178_17 (by decide) ?_
        exact zs_wk (ih5 _ _ (by omega) (zsm_I (by simp) h5_1) (fun j hj => by rw [zuI_1]; by_cases q : j = x2.toNat; rw [if_pos ⟨rfl, rfl, q⟩]; rw [if_neg (fun q2 => q q2.2.2)]; exact h5_2 j (by omega)) (fun a2 j ha => by rw [zuI_1, if_neg (fun q2 => ha q2.2.1)]; exact h5_3 a2 j ha) (by first | omega | (simp only [zuI_1, zuI_2, zuJ_1, zuJ_2, zuJ_3, zuP_1, zuP_2, zuP_3, zuC_1, zuC_2, reduceIte, Nat.reduceEqDiff, false_and, and_false, true_and, and_true, and_self, or_true, true_or, or_false, false_or]; omega))) (zwk_s rfl (zwk_s rfl (zwk_s rfl (zwk_s rfl zwk_0))))
  exact zs_wk (L5 _ _ _ (by omega) zsm_rf (fun j hj => by omega) (fun _ _ _ => rfl) (Nat.lt_succ_self _)) (zwk_s rfl (zwk_s rfl (zwk_s rfl (zwk_s rfl zwk_0))))

set_option maxHeartbeats 4000000 in
set_option maxRecDepth 100000 in
theorem c_X1_clearF {l : Launch} {Γ : zΓ} {G : zH} {w : Nat} (hX : zXs Γ)  : zMet l Γ yX1_clear cX1_clear 1 none 1 [zr 2 w] G (zpv (fun G' => zsm [206, 207, 2016, 2017] G G' ∧ ((∀ j : Nat, j < 7 → G'.1 2016 (Γ.2.1 w 2) j = 0 ∧ G'.1 2017 (Γ.2.1 w 3) j = 0) ∧ G'.1 206 w 0 = 0 ∧ G'.1 207 w 0 = 0 ∧ ∀ a j : Nat, (a ≠ Γ.2.1 w 2 → G'.1 2016 a j = G.1 2016 a j) ∧ (a ≠ Γ.2.1 w 3 → G'.1 2017 a j = G.1 2017 a j) ∧ (a ≠ w → G'.1 206 a j = G.1 206 a j ∧ G'.1 207 a j = G.1 207 a j)))) := by
  refine zMet_of RX1 hX (by decide) rfl (Nat.le_of_ble_eq_true rfl) ?_
  intro p e s m args below meth c C hr hlk
  show Z p l e (zrm 1) s m args below meth c Γ 1 0 0 (MQ below (zQc Γ (zpv (fun G' => zsm [206, 207, 2016, 2017] G G' ∧ ((∀ j : Nat, j < 7 → G'.1 2016 (Γ.2.1 w 2) j = 0 ∧ G'.1 2017 (Γ.2.1 w 3) j = 0) ∧ G'.1 206 w 0 = 0 ∧ G'.1 207 w 0 = 0 ∧ ∀ a j : Nat, (a ≠ Γ.2.1 w 2 → G'.1 2016 a j = G.1 2016 a j) ∧ (a ≠ Γ.2.1 w 3 → G'.1 2017 a j = G.1 2017 a j) ∧ (a ≠ w → G'.1 206 a j = G.1 206 a j ∧ G'.1 207 a j = G.1 207 a j))))) args s 0 0 (zA Γ)) 0 [some (zr 2 w)] [] G
  refine zs_aload_n (pc := 0) C dX1_clear_0 rfl ?_
  refine zs_getf (pc := 1) C dX1_clear_1 w_X1_18 f_2_2 (by decide) ?_
  refine zs_iconst (pc := 4) C dX1_clear_4 (by decide) ?_
  refine zSv2 (pc := 5) C dX1_clear_5 s_X1_31 (c_J7_fill_53178F hX a_16 (by decide) (by decide) (fun i => by rw [r_2016]; decide)) (by decide) ⟨Nat.zero_le _, Nat.zero_le _⟩ (Nat.le_of_ble_eq_true rfl) (fun G5 hp5 => ?_)
  obtain ⟨hz5, hq5⟩ := hp5
  refine zs_aload_n (pc := 8) C dX1_clear_8 rfl ?_
  refine zs_getf (pc := 9) C dX1_clear_9 w_X1_21 f_2_3 (by decide) ?_
  refine zs_iconst (pc := 12) C dX1_clear_12 (by decide) ?_
  refine zSv2 (pc := 13) C dX1_clear_13 s_X1_31 (c_J7_fill_53178F hX a_17 (by decide) (by decide) (fun i => by rw [r_2017]; decide)) (by decide) ⟨Nat.zero_le _, Nat.zero_le _⟩ (Nat.le_of_ble_eq_true rfl) (fun G13 hp13 => ?_)
  obtain ⟨hz13, hq13⟩ := hp13
  refine zs_aload_n (pc := 16) C dX1_clear_16 rfl ?_
  refine zs_iconst (pc := 17) C dX1_clear_17 (by decide) ?_
  refine zs_puti (r := 206) (pc := 18) C dX1_clear_18 w_X1_37 f_2_6 rfl (r_206 0) (by omega) ?_
  refine zs_aload_n (pc := 21) C dX1_clear_21 rfl ?_
  refine zs_iconst (pc := 22) C dX1_clear_22 (by decide) ?_
  refine zs_puti (r := 207) (pc := 23) C dX1_clear_23 w_X1_41 f_2_7 rfl (r_207 0) (by omega) ?_
  exact zs_vret (pc := 26) C hr hlk dX1_clear_26 ⟨by repeat (first | exact zsm_rf | assumption | refine zsm_C (by decide) ?_ | refine zsm_I (by decide) ?_ | refine zsm_J ?_ | refine zsm_c (by assumption) (by decide) ?_), ⟨fun j hj => ⟨by simp only [zuI_1, zuI_2, zuJ_1, zuJ_2, zuJ_3, zuP_1, zuP_2, zuP_3, zuC_1, zuC_2, reduceIte, Nat.reduceEqDiff, false_and, and_false, true_and, and_true, and_self, or_true, true_or, or_false, false_or]; rw [hz13.1 2016 (by decide)]; exact hq5.1 j hj, by simp only [zuI_1, zuI_2, zuJ_1, zuJ_2, zuJ_3, zuP_1, zuP_2, zuP_3, zuC_1, zuC_2, reduceIte, Nat.reduceEqDiff, false_and, and_false, true_and, and_true, and_self, or_true, true_or, or_false, false_or]; exact hq13.1 j hj⟩, by simp only [zuI_1, zuI_2, zuJ_1, zuJ_2, zuJ_3, zuP_1, zuP_2, zuP_3, zuC_1, zuC_2, reduceIte, Nat.reduceEqDiff, false_and, and_false, true_and, and_true, and_self, or_true, true_or, or_false, false_or], by simp only [zuI_1, zuI_2, zuJ_1, zuJ_2, zuJ_3, zuP_1, zuP_2, zuP_3, zuC_1, zuC_2, reduceIte, Nat.reduceEqDiff, false_and, and_false, true_and, and_true, and_self, or_true, true_or, or_false, false_or], fun a j => ⟨fun h => (by rw [zuI_nf (by decide), zuI_nf (by decide), hz13.1 2016 (by decide)]; exact hq5.2 a j h), fun h => (by rw [zuI_nf (by decide), zuI_nf (by decide), hq13.2 a j h, hz5.1 2017 (by decide)]), fun h => ⟨(by rw [zuI_nf (by decide), zuI_1, if_neg (fun q => h q.2.1), hz13.1 206 (by decide), hz5.1 206 (by decide)]), (by rw [zuI_1, if_neg (fun q => h q.2.1), zuI_nf (by decide), hz13.1 207 (by decide), hz5.1 207 (by decide)])⟩⟩⟩⟩

set_option maxHeartbeats 4000000 in
set_option maxRecDepth 100000 in
theorem c_X5_clearF {l : Launch} {Γ : zΓ} {G : zH} {w : Nat} (hX : zXs Γ)  : zMet l Γ yX5_clear cX5_clear 1 none 2 [zr 6 w] G (zpv (fun G' => zsm [206, 207, 2016, 2017, 2037, 2040, 609, 610, 611, 612] G G' ∧ (((∀ j : Nat, j < 4 → G'.1 2037 (Γ.2.1 w 2) j = 0) ∧ (∀ j : Nat, j < 20 → G'.1 2040 (Γ.2.1 w 5) j = 0) ∧ (∀ j : Nat, j < 7 → G'.1 2016 (Γ.2.1 (Γ.2.1 w 0) 2) j = 0 ∧ G'.1 2017 (Γ.2.1 (Γ.2.1 w 0) 3) j = 0) ∧ G'.1 206 (Γ.2.1 w 0) 0 = 0 ∧ G'.1 207 (Γ.2.1 w 0) 0 = 0 ∧ G'.1 609 w 0 = 100 ∧ G'.1 610 w 0 = 5 ∧ G'.1 611 w 0 = 0 ∧ G'.1 612 w 0 = 0) ∧ ∀ w9 : Nat, OF Γ w9 w G G'))) := by
  refine zMet_of RX5 hX (by decide) rfl (Nat.le_of_ble_eq_true rfl) ?_
  intro p e s m args below meth c C hr hlk
  show Z p l e (zrm 2) s m args below meth c Γ 1 0 0 (MQ below (zQc Γ (zpv (fun G' => zsm [206, 207, 2016, 2017, 2037, 2040, 609, 610, 611, 612] G G' ∧ (((∀ j : Nat, j < 4 → G'.1 2037 (Γ.2.1 w 2) j = 0) ∧ (∀ j : Nat, j < 20 → G'.1 2040 (Γ.2.1 w 5) j = 0) ∧ (∀ j : Nat, j < 7 → G'.1 2016 (Γ.2.1 (Γ.2.1 w 0) 2) j = 0 ∧ G'.1 2017 (Γ.2.1 (Γ.2.1 w 0) 3) j = 0) ∧ G'.1 206 (Γ.2.1 w 0) 0 = 0 ∧ G'.1 207 (Γ.2.1 w 0) 0 = 0 ∧ G'.1 609 w 0 = 100 ∧ G'.1 610 w 0 = 5 ∧ G'.1 611 w 0 = 0 ∧ G'.1 612 w 0 = 0) ∧ ∀ w9 : Nat, OF Γ w9 w G G')))) args s 0 0 (zA Γ)) 0 [some (zr 6 w)] [] G
  refine zs_aload_n (pc := 0) C dX5_clear_0 rfl ?_
  refine zs_getf (pc := 1) C dX5_clear_1 w_X5_12 f_6_0 (by decide) ?_
  refine zVv0 (pc := 4) C dX5_clear_4 v_X5_50 (c_X1_clearF hX ) (by decide) (by decide) ⟨Nat.zero_le _, Nat.zero_le _⟩ (Nat.le_of_ble_eq_true rfl) (fun G4 hp4 => ?_)
  obtain ⟨hz4, hq4⟩ := hp4
  refine zs_aload_n (pc := 7) C dX5_clear_7 rfl ?_
  refine zs_getf (pc := 8) C dX5_clear_8 w_X5_22 f_6_2 (by decide) ?_
  refine zs_iconst (pc := 11) C dX5_clear_11 (by decide) ?_
  refine zSv2 (pc := 12) C dX5_clear_12 s_X5_53 (c_J7_fill_53178F hX a_37 (by decide) (by decide) (fun i => by show (zrg 2037 i).1 ≤ 0 ∧ 0 ≤ (zrg 2037 i).2; have := rs_2037 i; omega)) (by decide) ⟨Nat.zero_le _, Nat.zero_le _⟩ (Nat.le_of_ble_eq_true rfl) (fun G12 hp12 => ?_)
  obtain ⟨hz12, hq12⟩ := hp12
  refine zs_aload_n (pc := 15) C dX5_clear_15 rfl ?_
  refine zs_getf (pc := 16) C dX5_clear_16 w_X5_31 f_6_5 (by decide) ?_
  refine zs_iconst (pc := 19) C dX5_clear_19 (by decide) ?_
  refine zSv2 (pc := 20) C dX5_clear_20 s_X5_53 (c_J7_fill_53178F hX a_40 (by decide) (by decide) (fun i => by rw [r_2040]; decide)) (by decide) ⟨Nat.zero_le _, Nat.zero_le _⟩ (Nat.le_of_ble_eq_true rfl) (fun G20 hp20 => ?_)
  obtain ⟨hz20, hq20⟩ := hp20
  refine zs_aload_n (pc := 23) C dX5_clear_23 rfl ?_
  refine zs_bipush (pc := 24) C dX5_clear_24 (by decide) (by decide) ?_
  refine zs_puti (r := 609) (pc := 26) C dX5_clear_26 w_X5_43 f_6_9 rfl (r_609 0) (by omega) ?_
  refine zs_aload_n (pc := 29) C dX5_clear_29 rfl ?_
  refine zs_iconst (pc := 30) C dX5_clear_30 (by decide) ?_
  refine zs_puti (r := 610) (pc := 31) C dX5_clear_31 w_X5_47 f_6_10 rfl (r_610 0) (by omega) ?_
  refine zs_aload_n (pc := 34) C dX5_clear_34 rfl ?_
  refine zs_iconst (pc := 35) C dX5_clear_35 (by decide) ?_
  refine zs_puti (r := 611) (pc := 36) C dX5_clear_36 w_X5_59 f_6_11 rfl (r_611 0) (by omega) ?_
  refine zs_aload_n (pc := 39) C dX5_clear_39 rfl ?_
  refine zs_iconst (pc := 40) C dX5_clear_40 (by decide) ?_
  refine zs_puti (r := 612) (pc := 41) C dX5_clear_41 w_X5_62 f_6_12 rfl (r_612 0) (by omega) ?_
  exact zs_vret (pc := 44) C hr hlk dX5_clear_44 ⟨by repeat (first | exact zsm_rf | assumption | refine zsm_C (by decide) ?_ | refine zsm_I (by decide) ?_ | refine zsm_J ?_ | refine zsm_c (by assumption) (by decide) ?_), ⟨⟨fun j hj => (by simp only [zuI_1, zuI_2, zuJ_1, zuJ_2, zuJ_3, zuP_1, zuP_2, zuP_3, zuC_1, zuC_2, reduceIte, Nat.reduceEqDiff, false_and, and_false, true_and, and_true, and_self, or_true, true_or, or_false, false_or]; rw [hz20.1 2037 (by decide)]; exact hq12.1 j hj), fun j hj => (by simp only [zuI_1, zuI_2, zuJ_1, zuJ_2, zuJ_3, zuP_1, zuP_2, zuP_3, zuC_1, zuC_2, reduceIte, Nat.reduceEqDiff, false_and, and_false, true_and, and_true, and_self, or_true, true_or, or_false, false_or]; exact hq20.1 j hj), fun j hj => ⟨by simp only [zuI_1, zuI_2, zuJ_1, zuJ_2, zuJ_3, zuP_1, zuP_2, zuP_3, zuC_1, zuC_2, reduceIte, Nat.reduceEqDiff, false_and, and_false, true_and, and_true, and_self, or_true, true_or, or_false, false_or]; rw [hz20.1 2016 (by decide), hz12.1 2016 (by decide)]; exact (hq4.1 j hj).1, by simp only [zuI_1, zuI_2, zuJ_1, zuJ_2, zuJ_3, zuP_1, zuP_2, zuP_3, zuC_1, zuC_2, reduceIte, Nat.reduceEqDiff, false_and, and_false, true_and, and_true, and_self, or_true, true_or, or_false, false_or]; rw [hz20.1 2017 (by decide), hz12.1 2017 (by decide)]; exact (hq4.1 j hj).2⟩, by simp only [zuI_1, zuI_2, zuJ_1, zuJ_2, zuJ_3, zuP_1, zuP_2, zuP_3, zuC_1, zuC_2, reduceIte, Nat.reduceEqDiff, false_and, and_false, true_and, and_true, and_self, or_true, true_or, or_false, false_or]; rw [hz20.1 206 (by decide), hz12.1 206 (by decide)]; exact hq4.2.1, by simp only [zuI_1, zuI_2, zuJ_1, zuJ_2, zuJ_3, zuP_1, zuP_2, zuP_3, zuC_1, zuC_2, reduceIte, Nat.reduceEqDiff, false_and, and_false, true_and, and_true, and_self, or_true, true_or, or_false, false_or]; rw [hz20.1 207 (by decide), hz12.1 207 (by decide)]; exact hq4.2.2.1, by simp only [zuI_1, zuI_2, zuJ_1, zuJ_2, zuJ_3, zuP_1, zuP_2, zuP_3, zuC_1, zuC_2, reduceIte, Nat.reduceEqDiff, false_and, and_false, true_and, and_true, and_self, or_true, true_or, or_false, false_or], by simp only [zuI_1, zuI_2, zuJ_1, zuJ_2, zuJ_3, zuP_1, zuP_2, zuP_3, zuC_1, zuC_2, reduceIte, Nat.reduceEqDiff, false_and, and_false, true_and, and_true, and_self, or_true, true_or, or_false, false_or], by simp only [zuI_1, zuI_2, zuJ_1, zuJ_2, zuJ_3, zuP_1, zuP_2, zuP_3, zuC_1, zuC_2, reduceIte, Nat.reduceEqDiff, false_and, and_false, true_and, and_true, and_self, or_true, true_or, or_false, false_or], by simp only [zuI_1, zuI_2, zuJ_1, zuJ_2, zuJ_3, zuP_1, zuP_2, zuP_3, zuC_1, zuC_2, reduceIte, Nat.reduceEqDiff, false_and, and_false, true_and, and_true, and_self, or_true, true_or, or_false, false_or]⟩, fun w9 => OF_w (f := 15) (by decide) (OF_w (f := 14) (by decide) (OF_w (f := 13) (by decide) (OF_w (f := 12) (by decide) (OF_fl (r := 2040) (f := 8) (by decide) rfl hz20 hq20.2 (OF_fl (r := 2037) (f := 4) (by decide) rfl hz12 hq12.2 (OF_lw hz4 hq4.2.2.2 OF_rf))))))⟩⟩

set_option maxHeartbeats 4000000 in
set_option maxRecDepth 100000 in
theorem c_X3_readAllF {l : Launch} {Γ : zΓ} {G : zH} {w t ab : Nat} {k : Int} (hX : zXs Γ) (hI : G.2.2 401 w = t) (hk : 0 ≤ k ∧ k ≤ 700) (hw : ∀ q9 : Nat, q9 < 24 → G.1 2044 (Γ.2.1 (Γ.2.1 w 0) 0) q9 = wl.getD q9 0) : zMet l Γ yX3_readAll cX3_readAll 4 (some .int) 6 [zr 4 w, zr 55 ab, zi k] G (zpi (fun x G' => zsm [402, 403, 404, 405, 406, 407, 408, 409, 410, 411, 412, 413, 2025, 206, 207, 2014, 2015, 2016, 2017, 2036, 2037, 2038, 2039, 2040, 2041, 2042, 2043, 609, 610, 611, 612, 704, 705, 706, 2045, 2046, 2047] G G' ∧ (∃ (N : Nat) (A0 : aS), sCl A0 ∧ x = sLC (G.1 2055 ab) k 700 0 (sNext (G.1 2055 ab) k A0) ∧ QC (G.1 2055 ab) k N Γ w t (sLN (G.1 2055 ab) k 700 (sNext (G.1 2055 ab) k A0)) G' ∧ OF Γ w t G G'))) := by
  refine zMet_of RX3 hX (by decide) rfl (Nat.le_of_ble_eq_true rfl) ?_
  intro p e s m args below meth c C hr hlk
  show Z p l e (zrm 6) s m args below meth c Γ 4 0 0 (MQ below (zQc Γ (zpi (fun x G' => zsm [402, 403, 404, 405, 406, 407, 408, 409, 410, 411, 412, 413, 2025, 206, 207, 2014, 2015, 2016, 2017, 2036, 2037, 2038, 2039, 2040, 2041, 2042, 2043, 609, 610, 611, 612, 704, 705, 706, 2045, 2046, 2047] G G' ∧ (∃ (N : Nat) (A0 : aS), sCl A0 ∧ x = sLC (G.1 2055 ab) k 700 0 (sNext (G.1 2055 ab) k A0) ∧ QC (G.1 2055 ab) k N Γ w t (sLN (G.1 2055 ab) k 700 (sNext (G.1 2055 ab) k A0)) G' ∧ OF Γ w t G G')))) args s 0 0 (zA Γ)) 0 [some (zr 4 w), some (zr 55 ab), some (zi k), none] [] G
  refine zs_loc 2 rfl (fun ha2 hb2 => ?_)
  refine zs_aload_n (pc := 0) C dX3_readAll_0 rfl ?_
  refine zs_getf (pc := 1) C dX3_readAll_1 w_X3_12 f_4_0 (by decide) ?_
  refine zs_aload_n (pc := 4) C dX3_readAll_4 rfl ?_
  refine zs_iload_n (pc := 5) C dX3_readAll_5 rfl ?_
  refine zVv2 (pc := 6) C dX3_readAll_6 v_X3_31 (c_X6_readAllF hX (by omega) hw) (by decide) (by decide) ⟨Nat.zero_le _, Nat.zero_le _⟩ (Nat.le_of_ble_eq_true rfl) (fun G6 hp6 => ?_)
  obtain ⟨hz6, hq6⟩ := hp6
  refine zs_aload_n (pc := 9) C dX3_readAll_9 rfl ?_
  refine zs_getd (r := 401) (pc := 10) C dX3_readAll_10 w_X3_21 f_4_1 (by decide) rfl (fun v10 e10 t10 => ?_)
  try simp only [hz6.2, zuI_1, zuI_2, zuJ_1, zuJ_2, zuJ_3, zuP_1, zuP_2, zuP_3, zuC_1, zuC_2, reduceIte, Nat.reduceEqDiff, false_and, and_false, true_and, and_true, and_self, or_true, true_or, or_false, false_or] at e10
  rw [hI] at e10
  subst v10
  refine zVv0 (pc := 13) C dX3_readAll_13 v_X3_35 (c_X5_clearF hX ) (by decide) (by decide) ⟨Nat.zero_le _, Nat.zero_le _⟩ (Nat.le_of_ble_eq_true rfl) (fun G13 hp13 => ?_)
  obtain ⟨hz13, hq13⟩ := hp13
  refine zs_aload_n (pc := 16) C dX3_readAll_16 rfl ?_
  refine zs_iconst (pc := 17) C dX3_readAll_17 (by decide) ?_
  refine zs_puti (r := 407) (pc := 18) C dX3_readAll_18 w_X3_38 f_4_7 rfl (r_407 0) (by omega) ?_
  refine zs_aload_n (pc := 21) C dX3_readAll_21 rfl ?_
  refine zs_iconst (pc := 22) C dX3_readAll_22 (by decide) ?_
  refine zs_puti (r := 408) (pc := 23) C dX3_readAll_23 w_X3_42 f_4_8 rfl (r_408 0) (by omega) ?_
  refine zs_aload_n (pc := 26) C dX3_readAll_26 rfl ?_
  refine zs_iconst (pc := 27) C dX3_readAll_27 (by decide) ?_
  refine zs_puti (r := 406) (pc := 28) C dX3_readAll_28 w_X3_45 f_4_6 rfl (r_406 0) (by omega) ?_
  refine zs_aload_n (pc := 31) C dX3_readAll_31 rfl ?_
  refine zs_iconst (pc := 32) C dX3_readAll_32 (by decide) ?_
  refine zs_puti (r := 402) (pc := 33) C dX3_readAll_33 w_X3_48 f_4_2 rfl (r_402 0) (by omega) ?_
  refine zs_heap (P := fun G2 => zsm [402, 403, 404, 405, 406, 407, 408, 409, 410, 411, 412, 413, 2025, 206, 207, 2014, 2015, 2016, 2017, 2036, 2037, 2038, 2039, 2040, 2041, 2042, 2043, 609, 610, 611, 612, 704, 705, 706, 2045, 2046, 2047] G G2 ∧ ∃ (N : Nat) (A0 : aS), sCl A0 ∧ AO Γ w t A0 G ∧ QN (G.1 2055 ab) k N Γ w t A0 G2) ⟨(by repeat (first | exact zsm_rf | assumption | refine zsm_C (by decide) ?_ | refine zsm_I (by decide) ?_ | refine zsm_J ?_ | refine zsm_c (by assumption) (by decide) ?_)), ?_⟩ (fun G2 hG2 => ?_)
  · obtain ⟨N, k1, k2, k3, k4, k5, k6, k7⟩ := hq6.2
    refine ⟨N, ?_⟩
    refine QN_start (b := (G.1 2055 ab)) (n := k) (by simp only [zuI_1, zuI_2, zuJ_1, zuJ_2, zuJ_3, zuP_1, zuP_2, zuP_3, zuC_1, zuC_2, reduceIte, Nat.reduceEqDiff, false_and, and_false, true_and, and_true, and_self, or_true, true_or, or_false, false_or]; rw [hz13.2, hz6.2]; exact hI) (TKN_sm (G := G6) ?_ ?_ ?_ ?_ ⟨k1, k2, k3, k4, k5, k6, k7⟩) (by simp only [zuI_1, zuI_2, zuJ_1, zuJ_2, zuJ_3, zuP_1, zuP_2, zuP_3, zuC_1, zuC_2, reduceIte, Nat.reduceEqDiff, false_and, and_false, true_and, and_true, and_self, or_true, true_or, or_false, false_or]) (by simp only [zuI_1, zuI_2, zuJ_1, zuJ_2, zuJ_3, zuP_1, zuP_2, zuP_3, zuC_1, zuC_2, reduceIte, Nat.reduceEqDiff, false_and, and_false, true_and, and_true, and_self, or_true, true_or, or_false, false_or]) (by simp only [zuI_1, zuI_2, zuJ_1, zuJ_2, zuJ_3, zuP_1, zuP_2, zuP_3, zuC_1, zuC_2, reduceIte, Nat.reduceEqDiff, false_and, and_false, true_and, and_true, and_self, or_true, true_or, or_false, false_or]) (by simp only [zuI_1, zuI_2, zuJ_1, zuJ_2, zuJ_3, zuP_1, zuP_2, zuP_3, zuC_1, zuC_2, reduceIte, Nat.reduceEqDiff, false_and, and_false, true_and, and_true, and_self, or_true, true_or, or_false, false_or]) ?_ (by repeat (first | exact OF_tr (OF_sm hz6 (by decide) OF_rf) (hq13.2 w) | refine OF_I (by decide) ?_))
    · rw [zuI_nf (by decide), zuI_nf (by decide), zuI_nf (by decide), zuI_nf (by decide)]; exact hz13.1 704 (by decide)
    · rw [zuI_nf (by decide), zuI_nf (by decide), zuI_nf (by decide), zuI_nf (by decide)]; exact hz13.1 2045 (by decide)
    · rw [zuI_nf (by decide), zuI_nf (by decide), zuI_nf (by decide), zuI_nf (by decide)]; exact hz13.1 2046 (by decide)
    · rw [zuI_nf (by decide), zuI_nf (by decide), zuI_nf (by decide), zuI_nf (by decide)]; exact hz13.1 2047 (by decide)
    · simp only [zuI_1, zuI_2, zuJ_1, zuJ_2, zuJ_3, zuP_1, zuP_2, zuP_3, zuC_1, zuC_2, reduceIte, Nat.reduceEqDiff, false_and, and_false, true_and, and_true, and_self, or_true, true_or, or_false, false_or]
      exact hq13.1
  obtain ⟨hh1, N, A0, hcl, hao, hN0⟩ := hG2
  refine zs_aload_n (pc := 36) C dX3_readAll_36 rfl ?_
  refine zVv0 (pc := 37) C dX3_readAll_37 v_X3_51 (c_X3_nextF hX hN0) (by decide) (by decide) ⟨Nat.zero_le _, Nat.zero_le _⟩ (Nat.le_of_ble_eq_true rfl) (fun G37 hp37 => ?_)
  obtain ⟨hz37, hq37⟩ := hp37
  try simp only [zuI_1, zuI_2, zuJ_1, zuJ_2, zuJ_3, zuP_1, zuP_2, zuP_3, zuC_1, zuC_2, reduceIte, Nat.reduceEqDiff, false_and, and_false, true_and, and_true, and_self, or_true, true_or, or_false, false_or] at hq37
  have hZ37 := hq37
  refine zs_iconst (pc := 40) C dX3_readAll_40 (by decide) ?_
  refine zs_istore_n (pc := 41) C dX3_readAll_41 (by decide) ?_
  dsimp only [zset, zclr, znone]
  have L42 : ∀ (nn : Nat) (x3 : Int) (G1 : zH) (A1 : aS), (0 ≤ x3 ∧ x3 ≤ 700) → (zsm [402, 403, 404, 405, 406, 407, 408, 409, 410, 411, 412, 413, 2025, 206, 207, 2014, 2015, 2016, 2017, 2036, 2037, 2038, 2039, 2040, 2041, 2042, 2043, 609, 610, 611, 612, 704, 705, 706, 2045, 2046, 2047] G G1) → (QC (G.1 2055 ab) k N Γ w t (A1) G1) → (sLN (G.1 2055 ab) k (700 - x3).toNat A1 = sLN (G.1 2055 ab) k 700 (sNext (G.1 2055 ab) k A0)) → (sLC (G.1 2055 ab) k (700 - x3).toNat x3 A1 = sLC (G.1 2055 ab) k 700 0 (sNext (G.1 2055 ab) k A0)) → (700 - x3).toNat < nn → Z p l e (zrm 6) s m args below meth c Γ 4 0 0 (MQ below (zQc Γ (zpi (fun x G' => zsm [402, 403, 404, 405, 406, 407, 408, 409, 410, 411, 412, 413, 2025, 206, 207, 2014, 2015, 2016, 2017, 2036, 2037, 2038, 2039, 2040, 2041, 2042, 2043, 609, 610, 611, 612, 704, 705, 706, 2045, 2046, 2047] G G' ∧ (∃ (N : Nat) (A0 : aS), sCl A0 ∧ x = sLC (G.1 2055 ab) k 700 0 (sNext (G.1 2055 ab) k A0) ∧ QC (G.1 2055 ab) k N Γ w t (sLN (G.1 2055 ab) k 700 (sNext (G.1 2055 ab) k A0)) G' ∧ OF Γ w t G G')))) args s 0 0 (zA Γ)) 42 [some (zr 4 w), some (zr 55 ab), some (zi k), some (zi x3)] [] G1 := by
    intro nn
    induction nn with
    | zero => intro x3 G1 A1 h42_0 h42_1 h42_2 h42_3 h42_4 hm; exact absurd hm (Nat.not_lt_zero _)
    | succ nn ih42 =>
      intro x3 G1 A1 h42_0 h42_1 h42_2 h42_3 h42_4 hm42
      refine zs_iload_n (pc := 42) C dX3_readAll_42 rfl ?_
      refine zs_sipush (pc := 43) C dX3_readAll_43 (by decide) (by decide) ?_
      refine zs_icmp_ge (tgt := 73) (pc := 46) C dX3_readAll_46 (by decide) (fun h46 => ?_) (fun h46 => ?_)
      · skip
        refine zs_iload_n (pc := 73) C dX3_readAll_73 rfl ?_
        exact zs_iret (pc := 74) C hr hlk dX3_readAll_74 ⟨by repeat (first | exact zsm_rf | assumption | refine zsm_C (by decide) ?_ | refine zsm_I (by decide) ?_ | refine zsm_J ?_ | refine zsm_c (by assumption) (by decide) ?_), ⟨N, A0, hcl, (by rw [← h42_4]; first | exact (sLN_e (by omega) _ _).2.symm | (rw [show (700 - x3).toNat = 0 by omega]; rfl)), QC_OF (by rw [← h42_3]; first | (rw [(sLN_e (by omega) _ 0).1]; exact h42_2) | (rw [show (700 - x3).toNat = 0 by omega]; exact h42_2)) (hi_sLN _ (hi_sNext hi_rf)) hao⟩⟩
      · skip
        refine zs_aload_n (pc := 49) C dX3_readAll_49 rfl ?_
        refine zs_geti (r := 407) (pc := 50) C dX3_readAll_50 w_X3_38 f_4_7 rfl (r_407 0) (fun v50 e50 l50 u50 => ?_)
        try simp only [QC_407 h42_2] at e50
        try subst v50
        refine zs_if_ne (tgt := 73) (pc := 53) C dX3_readAll_53 (by decide) (fun h53 => ?_) (fun h53 => ?_)
        · skip
          refine zs_iload_n (pc := 73) C dX3_readAll_73 rfl ?_
          exact zs_iret (pc := 74) C hr hlk dX3_readAll_74 ⟨by repeat (first | exact zsm_rf | assumption | refine zsm_C (by decide) ?_ | refine zsm_I (by decide) ?_ | refine zsm_J ?_ | refine zsm_c (by assumption) (by decide) ?_), ⟨N, A0, hcl, (by rw [← h42_4]; first | exact (sLN_e (by omega) _ _).2.symm | (rw [show (700 - x3).toNat = 0 by omega]; rfl)), QC_OF (by rw [← h42_3]; first | (rw [(sLN_e (by omega) _ 0).1]; exact h42_2) | (rw [show (700 - x3).toNat = 0 by omega]; exact h42_2)) (hi_sLN _ (hi_sNext hi_rf)) hao⟩⟩
        · skip
          refine zs_aload_n (pc := 56) C dX3_readAll_56 rfl ?_
          refine zs_geti (r := 403) (pc := 57) C dX3_readAll_57 w_X3_54 f_4_3 rfl (r_403 0) (fun v57 e57 l57 u57 => ?_)
          try simp only [QC_403 h42_2] at e57
          try subst v57
          refine zs_if_eq (tgt := 73) (pc := 60) C dX3_readAll_60 (by decide) (fun h60 => ?_) (fun h60 => ?_)
          · skip
            refine zs_iload_n (pc := 73) C dX3_readAll_73 rfl ?_
            exact zs_iret (pc := 74) C hr hlk dX3_readAll_74 ⟨by repeat (first | exact zsm_rf | assumption | refine zsm_C (by decide) ?_ | refine zsm_I (by decide) ?_ | refine zsm_J ?_ | refine zsm_c (by assumption) (by decide) ?_), ⟨N, A0, hcl, (by rw [← h42_4]; first | exact (sLN_e (by omega) _ _).2.symm | (rw [show (700 - x3).toNat = 0 by omega]; rfl)), QC_OF (by rw [← h42_3]; first | (rw [(sLN_e (by omega) _ 0).1]; exact h42_2) | (rw [show (700 - x3).toNat = 0 by omega]; exact h42_2)) (hi_sLN _ (hi_sNext hi_rf)) hao⟩⟩
          · skip
            refine zs_aload_n (pc := 63) C dX3_readAll_63 rfl ?_
            refine zVv0 (pc := 64) C dX3_readAll_64 v_X3_57 (c_X3_readLineF hX h42_2) (by decide) (by decide) ⟨Nat.zero_le _, Nat.zero_le _⟩ (Nat.le_of_ble_eq_true rfl) (fun G64 hp64 => ?_)
            obtain ⟨hz64, hq64⟩ := hp64
            have hZ64 := hq64
            first | refine zs_iinc (pc := 67) C dX3_readAll_67 rfl (by decide) (by omega) ?_ | refine zs_iincF (pc := 67) C dX3_readAll_67 rfl (by decide) (fun z67 hz671 hz672 => ?_)
            dsimp only [zset, zclr, znone]
            refine zs_goto (tgt := 42) (pc := 70) C dX3_readAll_70 (by decide) ?_
            exact zs_wk (ih42 _ _ _ (by omega) (by repeat (first | exact zsm_rf | assumption | refine zsm_C (by decide) ?_ | refine zsm_I (by decide) ?_ | refine zsm_J ?_ | refine zsm_c (by assumption) (by decide) ?_)) hZ64 (by rw [← h42_3, show (700 - x3).toNat = (700 - (x3 + 1)).toNat + 1 by omega, sLN, if_pos ⟨by omega, by omega⟩]) (by rw [← h42_4, show (700 - x3).toNat = (700 - (x3 + 1)).toNat + 1 by omega, sLC, if_pos ⟨by omega, by omega⟩]) (by first | omega | (simp only [zuI_1, zuI_2, zuJ_1, zuJ_2, zuJ_3, zuP_1, zuP_2, zuP_3, zuC_1, zuC_2, reduceIte, Nat.reduceEqDiff, false_and, and_false, true_and, and_true, and_self, or_true, true_or, or_false, false_or]; omega))) (zwk_s rfl (zwk_s rfl (zwk_s rfl (zwk_s rfl zwk_0))))
  exact zs_wk (L42 _ _ _ _ (by omega) (by repeat (first | exact zsm_rf | assumption | refine zsm_C (by decide) ?_ | refine zsm_I (by decide) ?_ | refine zsm_J ?_ | refine zsm_c (by assumption) (by decide) ?_)) hZ37 rfl rfl (Nat.lt_succ_self _)) (zwk_s rfl (zwk_s rfl (zwk_s rfl (zwk_s rfl zwk_0))))
