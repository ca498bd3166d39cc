theorem sFail_fn {b : Nat → Int} {n c : Int} {A : aS} {f j : Nat} (h1 : f ≠ 1) (h2 : f ≠ 2) : (sFail b n c A) f j = A f j := by
  unfold sFail
  split
  · rw [up_f h2, up_f h1]
  · rfl
theorem sCount_ne {b : Nat → Int} {n : Int} {A : aS} (h : A 1 0 ≠ 0) : sCount b n A = A := by
  have hc : sCnt b n A = A := by
    unfold sCnt
    split
    · exact sFail_1 h
    · rfl
  unfold sCount
  rw [hc, if_neg h]
theorem sLeaf_ne {b : Nat → Int} {n k q q' : Int} {A : aS} (h : A 1 0 ≠ 0) : sLeaf b n k q A = sLeaf b n k q' A := by
  unfold sLeaf
  rw [sCount_ne h, if_neg h, if_neg h]
theorem sReln_f {r : Int} {f j : Nat} (h1 : f < 27) (h2 : f ≠ 18) (h3 : f ≠ 19) (h4 : f ≠ 20) (h5 : f ≠ 22) : ∀ (m : Nat) (A : aS), (sReln r m A) f j = A f j
  | 0, A => rfl
  | m + 1, A => by
    rw [sReln]
    split
    · rw [sReln_f h1 h2 h3 h4 h5 m, sWrite_22 h2 h3 h4, gOp_f h1, up_f h5]
    · rfl
theorem sRel_f {r : Int} {A : aS} {f j : Nat} (h1 : f < 27) (h2 : f ≠ 18) (h3 : f ≠ 19) (h4 : f ≠ 20) (h5 : f ≠ 22) : (sRel r A) f j = A f j := sReln_f h1 h2 h3 h4 h5 _ A
theorem sEL_e {b : Nat → Int} {n go : Int} {A : aS} (h : ¬ (A 1 0 = 0 ∧ go ≠ 0)) : ∀ m : Nat, sEL b n m go A = A
  | 0 => rfl
  | m + 1 => by rw [sEL, if_neg h]

set_option maxHeartbeats 4000000 in
set_option maxRecDepth 100000 in
theorem c_X1_beginF {l : Launch} {Γ : zΓ} {G : zH} {w t : Nat} {b : Nat → Int} {n : Int} {N : Nat} {A : aS} {k : Int} (hX : zXs Γ) (hZ : QC b n N Γ w t A G)  : zMet l Γ yX1_begin cX1_begin 2 none 0 [zr 2 (Γ.2.1 t 0), zi k] G (zpv (fun G' => zsm [2016] G G' ∧ QC b n N Γ w t (sLB k A) G')) := by
  have hI := QC_t hZ
  refine zMet_of RX1 hX (by decide) rfl (Nat.le_of_ble_eq_true rfl) ?_
  intro p e s m args below meth c C hr hlk
  show Z p l e (zrm 0) s m args below meth c Γ 2 0 0 (MQ below (zQc Γ (zpv (fun G' => zsm [2016] G G' ∧ QC b n N Γ w t (sLB k A) G'))) args s 0 0 (zA Γ)) 0 [some (zr 2 (Γ.2.1 t 0)), some (zi k)] [] G
  refine zs_loc 1 rfl (fun ha1 hb1 => ?_)
  refine zs_iload_n (pc := 0) C dX1_begin_0 rfl ?_
  refine zs_if_lt (tgt := 20) (pc := 1) C dX1_begin_1 (by decide) (fun h1 => ?_) (fun h1 => ?_)
  · skip
    exact zs_vret (pc := 20) C hr hlk dX1_begin_20 ⟨by repeat (first | exact zsm_rf | assumption | refine zsm_C (by decide) ?_ | refine zsm_I (by decide) ?_ | refine zsm_J ?_ | refine zsm_c (by assumption) (by decide) ?_), by unfold sLB; (repeat' split) <;> first | assumption | (exfalso; omega) | exact (by repeat (first | assumption | apply QCw_407 | apply QCw_408 | apply QCw_406 | apply QCw_2037 | apply QCw_2036 | apply QCw_2038 | apply QCw_2039 | apply QCw_2040 | apply QCw_2041 | apply QCw_2042 | apply QCw_2043 | apply QCw_609 | apply QCw_610 | apply QCw_611 | apply QCw_612 | apply QCw_2016 | apply QCw_2017 | apply QCw_2014 | apply QCw_2015 | apply QCw_206 | apply QCw_207 | apply QCw_410 | apply QCw_411 | apply QCw_412 | apply QCw_413 | apply QCw_2025 | refine QC_g (by decide) ?_ | refine QC_sm (by assumption) (by decide) (by decide) ?_))⟩
  · skip
    refine zs_iload_n (pc := 4) C dX1_begin_4 rfl ?_
    refine zs_bipush (pc := 5) C dX1_begin_5 (by decide) (by decide) ?_
    refine zs_icmp_ge (tgt := 20) (pc := 7) C dX1_begin_7 (by decide) (fun h7 => ?_) (fun h7 => ?_)
    · skip
      exact zs_vret (pc := 20) C hr hlk dX1_begin_20 ⟨by repeat (first | exact zsm_rf | assumption | refine zsm_C (by decide) ?_ | refine zsm_I (by decide) ?_ | refine zsm_J ?_ | refine zsm_c (by assumption) (by decide) ?_), by unfold sLB; (repeat' split) <;> first | assumption | (exfalso; omega) | exact (by repeat (first | assumption | apply QCw_407 | apply QCw_408 | apply QCw_406 | apply QCw_2037 | apply QCw_2036 | apply QCw_2038 | apply QCw_2039 | apply QCw_2040 | apply QCw_2041 | apply QCw_2042 | apply QCw_2043 | apply QCw_609 | apply QCw_610 | apply QCw_611 | apply QCw_612 | apply QCw_2016 | apply QCw_2017 | apply QCw_2014 | apply QCw_2015 | apply QCw_206 | apply QCw_207 | apply QCw_410 | apply QCw_411 | apply QCw_412 | apply QCw_413 | apply QCw_2025 | refine QC_g (by decide) ?_ | refine QC_sm (by assumption) (by decide) (by decide) ?_))⟩
    · skip
      refine zs_aload_n (pc := 10) C dX1_begin_10 rfl ?_
      refine zs_getf (pc := 11) C dX1_begin_11 w_X1_18 f_2_2 (by decide) ?_
      refine zs_iload_n (pc := 14) C dX1_begin_14 rfl ?_
      refine zs_aload_n (pc := 15) C dX1_begin_15 rfl ?_
      refine zs_geti (r := 206) (pc := 16) C dX1_begin_16 w_X1_37 f_2_6 rfl (r_206 0) (fun v16 e16 l16 u16 => ?_)
      try simp only [QC_206 hZ] at e16
      try subst v16
      refine zs_iast (r := 2016) (pc := 19) C dX1_begin_19 a_16 (by decide) (by omega) rfl (r_2016 _) (by omega) ?_
      exact zs_vret (pc := 20) C hr hlk dX1_begin_20 ⟨by repeat (first | exact zsm_rf | assumption | refine zsm_C (by decide) ?_ | refine zsm_I (by decide) ?_ | refine zsm_J ?_ | refine zsm_c (by assumption) (by decide) ?_), by unfold sLB; (repeat' split) <;> first | assumption | (exfalso; omega) | exact (by repeat (first | assumption | apply QCw_407 | apply QCw_408 | apply QCw_406 | apply QCw_2037 | apply QCw_2036 | apply QCw_2038 | apply QCw_2039 | apply QCw_2040 | apply QCw_2041 | apply QCw_2042 | apply QCw_2043 | apply QCw_609 | apply QCw_610 | apply QCw_611 | apply QCw_612 | apply QCw_2016 | apply QCw_2017 | apply QCw_2014 | apply QCw_2015 | apply QCw_206 | apply QCw_207 | apply QCw_410 | apply QCw_411 | apply QCw_412 | apply QCw_413 | apply QCw_2025 | refine QC_g (by decide) ?_ | refine QC_sm (by assumption) (by decide) (by decide) ?_))⟩

set_option maxHeartbeats 4000000 in
set_option maxRecDepth 100000 in
theorem c_X1_finishF {l : Launch} {Γ : zΓ} {G : zH} {w t : Nat} {b : Nat → Int} {n : Int} {N : Nat} {A : aS} {k : Int} (hX : zXs Γ) (hZ : QC b n N Γ w t A G)  : zMet l Γ yX1_finish cX1_finish 2 none 0 [zr 2 (Γ.2.1 t 0), zi k] G (zpv (fun G' => zsm [2017] G G' ∧ QC b n N Γ w t (sFin k A) G')) := by
  have hI := QC_t hZ
  refine zMet_of RX1 hX (by decide) rfl (Nat.le_of_ble_eq_true rfl) ?_
  intro p e s m args below meth c C hr hlk
  show Z p l e (zrm 0) s m args below meth c Γ 2 0 0 (MQ below (zQc Γ (zpv (fun G' => zsm [2017] G G' ∧ QC b n N Γ w t (sFin k A) G'))) args s 0 0 (zA Γ)) 0 [some (zr 2 (Γ.2.1 t 0)), some (zi k)] [] G
  refine zs_loc 1 rfl (fun ha1 hb1 => ?_)
  refine zs_iload_n (pc := 0) C dX1_finish_0 rfl ?_
  refine zs_if_lt (tgt := 20) (pc := 1) C dX1_finish_1 (by decide) (fun h1 => ?_) (fun h1 => ?_)
  · skip
    exact zs_vret (pc := 20) C hr hlk dX1_finish_20 ⟨by repeat (first | exact zsm_rf | assumption | refine zsm_C (by decide) ?_ | refine zsm_I (by decide) ?_ | refine zsm_J ?_ | refine zsm_c (by assumption) (by decide) ?_), by unfold sFin; (repeat' split) <;> first | assumption | (exfalso; omega) | exact (by repeat (first | assumption | apply QCw_407 | apply QCw_408 | apply QCw_406 | apply QCw_2037 | apply QCw_2036 | apply QCw_2038 | apply QCw_2039 | apply QCw_2040 | apply QCw_2041 | apply QCw_2042 | apply QCw_2043 | apply QCw_609 | apply QCw_610 | apply QCw_611 | apply QCw_612 | apply QCw_2016 | apply QCw_2017 | apply QCw_2014 | apply QCw_2015 | apply QCw_206 | apply QCw_207 | apply QCw_410 | apply QCw_411 | apply QCw_412 | apply QCw_413 | apply QCw_2025 | refine QC_g (by decide) ?_ | refine QC_sm (by assumption) (by decide) (by decide) ?_))⟩
  · skip
    refine zs_iload_n (pc := 4) C dX1_finish_4 rfl ?_
    refine zs_bipush (pc := 5) C dX1_finish_5 (by decide) (by decide) ?_
    refine zs_icmp_ge (tgt := 20) (pc := 7) C dX1_finish_7 (by decide) (fun h7 => ?_) (fun h7 => ?_)
    · skip
      exact zs_vret (pc := 20) C hr hlk dX1_finish_20 ⟨by repeat (first | exact zsm_rf | assumption | refine zsm_C (by decide) ?_ | refine zsm_I (by decide) ?_ | refine zsm_J ?_ | refine zsm_c (by assumption) (by decide) ?_), by unfold sFin; (repeat' split) <;> first | assumption | (exfalso; omega) | exact (by repeat (first | assumption | apply QCw_407 | apply QCw_408 | apply QCw_406 | apply QCw_2037 | apply QCw_2036 | apply QCw_2038 | apply QCw_2039 | apply QCw_2040 | apply QCw_2041 | apply QCw_2042 | apply QCw_2043 | apply QCw_609 | apply QCw_610 | apply QCw_611 | apply QCw_612 | apply QCw_2016 | apply QCw_2017 | apply QCw_2014 | apply QCw_2015 | apply QCw_206 | apply QCw_207 | apply QCw_410 | apply QCw_411 | apply QCw_412 | apply QCw_413 | apply QCw_2025 | refine QC_g (by decide) ?_ | refine QC_sm (by assumption) (by decide) (by decide) ?_))⟩
    · skip
      refine zs_aload_n (pc := 10) C dX1_finish_10 rfl ?_
      refine zs_getf (pc := 11) C dX1_finish_11 w_X1_21 f_2_3 (by decide) ?_
      refine zs_iload_n (pc := 14) C dX1_finish_14 rfl ?_
      refine zs_aload_n (pc := 15) C dX1_finish_15 rfl ?_
      refine zs_geti (r := 206) (pc := 16) C dX1_finish_16 w_X1_37 f_2_6 rfl (r_206 0) (fun v16 e16 l16 u16 => ?_)
      try simp only [QC_206 hZ] at e16
      try subst v16
      refine zs_iast (r := 2017) (pc := 19) C dX1_finish_19 a_17 (by decide) (by omega) rfl (r_2017 _) (by omega) ?_
      exact zs_vret (pc := 20) C hr hlk dX1_finish_20 ⟨by repeat (first | exact zsm_rf | assumption | refine zsm_C (by decide) ?_ | refine zsm_I (by decide) ?_ | refine zsm_J ?_ | refine zsm_c (by assumption) (by decide) ?_), by unfold sFin; (repeat' split) <;> first | assumption | (exfalso; omega) | exact (by repeat (first | assumption | apply QCw_407 | apply QCw_408 | apply QCw_406 | apply QCw_2037 | apply QCw_2036 | apply QCw_2038 | apply QCw_2039 | apply QCw_2040 | apply QCw_2041 | apply QCw_2042 | apply QCw_2043 | apply QCw_609 | apply QCw_610 | apply QCw_611 | apply QCw_612 | apply QCw_2016 | apply QCw_2017 | apply QCw_2014 | apply QCw_2015 | apply QCw_206 | apply QCw_207 | apply QCw_410 | apply QCw_411 | apply QCw_412 | apply QCw_413 | apply QCw_2025 | refine QC_g (by decide) ?_ | refine QC_sm (by assumption) (by decide) (by decide) ?_))⟩

set_option maxHeartbeats 4000000 in
set_option maxRecDepth 100000 in
theorem c_X1_writeF {l : Launch} {Γ : zΓ} {G : zH} {w t : Nat} {b : Nat → Int} {n : Int} {N : Nat} {A : aS} {k q : Int} (hX : zXs Γ) (hZ : QC b n N Γ w t A G)  : zMet l Γ yX1_write cX1_write 3 none 0 [zr 2 (Γ.2.1 t 0), zi k, zi q] G (zpv (fun G' => zsm [206, 2014, 2015] G G' ∧ QC b n N Γ w t (sWrite k q A) G')) := by
  have hI := QC_t hZ
  refine zMet_of RX1 hX (by decide) rfl (Nat.le_of_ble_eq_true rfl) ?_
  intro p e s m args below meth c C hr hlk
  show Z p l e (zrm 0) s m args below meth c Γ 3 0 0 (MQ below (zQc Γ (zpv (fun G' => zsm [206, 2014, 2015] G G' ∧ QC b n N Γ w t (sWrite k q A) G'))) args s 0 0 (zA Γ)) 0 [some (zr 2 (Γ.2.1 t 0)), some (zi k), some (zi q)] [] G
  refine zs_loc 1 rfl (fun ha1 hb1 => ?_)
  refine zs_loc 2 rfl (fun ha2 hb2 => ?_)
  refine zs_aload_n (pc := 0) C dX1_write_0 rfl ?_
  refine zs_geti (r := 206) (pc := 1) C dX1_write_1 w_X1_37 f_2_6 rfl (r_206 0) (fun v1 e1 l1 u1 => ?_)
  try simp only [QC_206 hZ] at e1
  try subst v1
  refine zs_bipush (pc := 4) C dX1_write_4 (by decide) (by decide) ?_
  refine zs_icmp_ge (tgt := 39) (pc := 6) C dX1_write_6 (by decide) (fun h6 => ?_) (fun h6 => ?_)
  · skip
    exact zs_vret (pc := 39) C hr hlk dX1_write_39 ⟨by repeat (first | exact zsm_rf | assumption | refine zsm_C (by decide) ?_ | refine zsm_I (by decide) ?_ | refine zsm_J ?_ | refine zsm_c (by assumption) (by decide) ?_), by unfold sWrite; (repeat' split) <;> first | assumption | (exfalso; omega) | exact (by repeat (first | assumption | apply QCw_407 | apply QCw_408 | apply QCw_406 | apply QCw_2037 | apply QCw_2036 | apply QCw_2038 | apply QCw_2039 | apply QCw_2040 | apply QCw_2041 | apply QCw_2042 | apply QCw_2043 | apply QCw_609 | apply QCw_610 | apply QCw_611 | apply QCw_612 | apply QCw_2016 | apply QCw_2017 | apply QCw_2014 | apply QCw_2015 | apply QCw_206 | apply QCw_207 | apply QCw_410 | apply QCw_411 | apply QCw_412 | apply QCw_413 | apply QCw_2025 | refine QC_g (by decide) ?_ | refine QC_sm (by assumption) (by decide) (by decide) ?_))⟩
  · skip
    refine zs_aload_n (pc := 9) C dX1_write_9 rfl ?_
    refine zs_getf (pc := 10) C dX1_write_10 w_X1_11 f_2_0 (by decide) ?_
    refine zs_aload_n (pc := 13) C dX1_write_13 rfl ?_
    refine zs_geti (r := 206) (pc := 14) C dX1_write_14 w_X1_37 f_2_6 rfl (r_206 0) (fun v14 e14 l14 u14 => ?_)
    try simp only [QC_206 hZ] at e14
    try subst v14
    refine zs_iload_n (pc := 17) C dX1_write_17 rfl ?_
    refine zs_iast (r := 2014) (pc := 18) C dX1_write_18 a_14 (by decide) (by omega) rfl (r_2014 _) (by omega) ?_
    refine zs_aload_n (pc := 19) C dX1_write_19 rfl ?_
    refine zs_getf (pc := 20) C dX1_write_20 w_X1_15 f_2_1 (by decide) ?_
    refine zs_aload_n (pc := 23) C dX1_write_23 rfl ?_
    refine zs_geti (r := 206) (pc := 24) C dX1_write_24 w_X1_37 f_2_6 rfl (r_206 0) (fun v24 e24 l24 u24 => ?_)
    try simp only [zuI_1, zuI_2, zuJ_1, zuJ_2, zuJ_3, zuP_1, zuP_2, zuP_3, zuC_1, zuC_2, reduceIte, Nat.reduceEqDiff, false_and, and_false, true_and, and_true, and_self, or_true, true_or, or_false, false_or] at e24
    try simp only [QC_206 hZ] at e24
    try subst v24
    refine zs_iload_n (pc := 27) C dX1_write_27 rfl ?_
    refine zs_iast (r := 2015) (pc := 28) C dX1_write_28 a_15 (by decide) (by omega) rfl (r_2015 _) (by omega) ?_
    refine zs_aload_n (pc := 29) C dX1_write_29 rfl ?_
    refine zs_dupa (pc := 30) C dX1_write_30 ?_
    refine zs_geti (r := 206) (pc := 31) C dX1_write_31 w_X1_37 f_2_6 rfl (r_206 0) (fun v31 e31 l31 u31 => ?_)
    try simp only [zuI_1, zuI_2, zuJ_1, zuJ_2, zuJ_3, zuP_1, zuP_2, zuP_3, zuC_1, zuC_2, reduceIte, Nat.reduceEqDiff, false_and, and_false, true_and, and_true, and_self, or_true, true_or, or_false, false_or] at e31
    try simp only [QC_206 hZ] at e31
    try subst v31
    refine zs_iconst (pc := 34) C dX1_write_34 (by decide) ?_
    first | refine zs_iadd (pc := 35) C dX1_write_35 (by omega) ?_ | refine zs_iaddF (pc := 35) C dX1_write_35 (fun z35 hz351 hz352 => ?_)
    refine zs_puti (r := 206) (pc := 36) C dX1_write_36 w_X1_37 f_2_6 rfl (r_206 0) (by omega) ?_
    exact zs_vret (pc := 39) C hr hlk dX1_write_39 ⟨by repeat (first | exact zsm_rf | assumption | refine zsm_C (by decide) ?_ | refine zsm_I (by decide) ?_ | refine zsm_J ?_ | refine zsm_c (by assumption) (by decide) ?_), by unfold sWrite; (repeat' split) <;> first | assumption | (exfalso; omega) | exact (by repeat (first | assumption | apply QCw_407 | apply QCw_408 | apply QCw_406 | apply QCw_2037 | apply QCw_2036 | apply QCw_2038 | apply QCw_2039 | apply QCw_2040 | apply QCw_2041 | apply QCw_2042 | apply QCw_2043 | apply QCw_609 | apply QCw_610 | apply QCw_611 | apply QCw_612 | apply QCw_2016 | apply QCw_2017 | apply QCw_2014 | apply QCw_2015 | apply QCw_206 | apply QCw_207 | apply QCw_410 | apply QCw_411 | apply QCw_412 | apply QCw_413 | apply QCw_2025 | refine QC_g (by decide) ?_ | refine QC_sm (by assumption) (by decide) (by decide) ?_))⟩

set_option maxHeartbeats 4000000 in
set_option maxRecDepth 100000 in
theorem c_X3_countKnotF {l : Launch} {Γ : zΓ} {G : zH} {w t : Nat} {b : Nat → Int} {n : Int} {N : Nat} {A : aS}  (hX : zXs Γ) (hZ : QC b n N Γ w t A G)  : zMet l Γ yX3_countKnot cX3_countKnot 1 (some .boolean) 1 [zr 4 w] G (zpi (fun x G' => zsm [402, 403, 404, 405, 406, 407, 408, 409, 410, 411, 412, 413, 2025, 206, 207, 2014, 2015, 2016, 2017, 2036, 2037, 2038, 2039, 2040, 2041, 2042, 2043, 609, 610, 611, 612] G G' ∧ (QC b n N Γ w t (sCount b n A) G' ∧ ((x = 0 ∨ x = 1) ∧ (x = 1 ↔ (sCount b n A) 1 0 = 0))))) := by
  have hI := QC_t hZ
  have f2 := sFail_f (b := b) (n := n) (A := A) (show (2 : Int) ≠ 0 by decide)
  refine zMet_of RX3 hX (by decide) rfl (Nat.le_of_ble_eq_true rfl) ?_
  intro p e s m args below meth c C hr hlk
  show Z p l e (zrm 1) s m args below meth c Γ 1 0 0 (MQ below (zQc Γ (zpi (fun x G' => zsm [402, 403, 404, 405, 406, 407, 408, 409, 410, 411, 412, 413, 2025, 206, 207, 2014, 2015, 2016, 2017, 2036, 2037, 2038, 2039, 2040, 2041, 2042, 2043, 609, 610, 611, 612] G G' ∧ (QC b n N Γ w t (sCount b n A) G' ∧ ((x = 0 ∨ x = 1) ∧ (x = 1 ↔ (sCount b n A) 1 0 = 0)))))) args s 0 0 (zA Γ)) 0 [some (zr 4 w)] [] G
  refine zs_aload_n (pc := 0) C dX3_countKnot_0 rfl ?_
  refine zs_getd (r := 401) (pc := 1) C dX3_countKnot_1 w_X3_21 f_4_1 (by decide) rfl (fun v1 e1 t1 => ?_)
  rw [hI] at e1
  subst v1
  refine zs_getf (pc := 4) C dX3_countKnot_4 w_X3_148 f_6_0 (by decide) ?_
  refine zs_geti (r := 207) (pc := 7) C dX3_countKnot_7 w_X3_223 f_2_7 rfl (r_207 0) (fun v7 e7 l7 u7 => ?_)
  try simp only [QC_207 hZ] at e7
  try subst v7
  refine zs_bipush (pc := 10) C dX3_countKnot_10 (by decide) (by decide) ?_
  refine zs_icmp_lt (tgt := 20) (pc := 12) C dX3_countKnot_12 (by decide) (fun h12 => ?_) (fun h12 => ?_)
  · skip
    refine zs_aload_n (pc := 20) C dX3_countKnot_20 rfl ?_
    refine zs_geti (r := 407) (pc := 21) C dX3_countKnot_21 w_X3_38 f_4_7 rfl (r_407 0) (fun v21 e21 l21 u21 => ?_)
    try simp only [QC_407 hZ] at e21
    try subst v21
    refine zs_if_eq (tgt := 29) (pc := 24) C dX3_countKnot_24 (by decide) (fun h24 => ?_) (fun h24 => ?_)
    · skip
      refine zs_aload_n (pc := 29) C dX3_countKnot_29 rfl ?_
      refine zs_getd (r := 401) (pc := 30) C dX3_countKnot_30 w_X3_21 f_4_1 (by decide) rfl (fun v30 e30 t30 => ?_)
      rw [hI] at e30
      subst v30
      refine zs_getf (pc := 33) C dX3_countKnot_33 w_X3_148 f_6_0 (by decide) ?_
      refine zs_dupa (pc := 36) C dX3_countKnot_36 ?_
      refine zs_geti (r := 207) (pc := 37) C dX3_countKnot_37 w_X3_223 f_2_7 rfl (r_207 0) (fun v37 e37 l37 u37 => ?_)
      try simp only [QC_207 hZ] at e37
      try subst v37
      refine zs_iconst (pc := 40) C dX3_countKnot_40 (by decide) ?_
      first | refine zs_iadd (pc := 41) C dX3_countKnot_41 (by omega) ?_ | refine zs_iaddF (pc := 41) C dX3_countKnot_41 (fun z41 hz411 hz412 => ?_)
      refine zs_puti (r := 207) (pc := 42) C dX3_countKnot_42 w_X3_223 f_2_7 rfl (r_207 0) (by omega) ?_
      refine zs_iconst (pc := 45) C dX3_countKnot_45 (by decide) ?_
      exact zs_zret (pc := 46) C hr hlk dX3_countKnot_46 (by omega) ⟨by repeat (first | exact zsm_rf | assumption | refine zsm_C (by decide) ?_ | refine zsm_I (by decide) ?_ | refine zsm_J ?_ | refine zsm_c (by assumption) (by decide) ?_), by
            first
            | (exfalso; omega)
            | (have hc : sCnt b n A = sFail b n 2 A := if_pos (by omega)
               unfold sCount
               rw [hc, if_neg (by omega)]
               exact ⟨(by repeat (first | assumption | apply QCw_407 | apply QCw_408 | apply QCw_406 | apply QCw_2037 | apply QCw_2036 | apply QCw_2038 | apply QCw_2039 | apply QCw_2040 | apply QCw_2041 | apply QCw_2042 | apply QCw_2043 | apply QCw_609 | apply QCw_610 | apply QCw_611 | apply QCw_612 | apply QCw_2016 | apply QCw_2017 | apply QCw_2014 | apply QCw_2015 | apply QCw_206 | apply QCw_207 | apply QCw_410 | apply QCw_411 | apply QCw_412 | apply QCw_413 | apply QCw_2025 | refine QC_g (by decide) ?_ | refine QC_sm (by assumption) (by decide) (by decide) ?_)), Or.inl rfl, fun q => absurd q (by decide), fun q => absurd q f2⟩)
            | (have hc : sCnt b n A = A := if_neg (by omega)
               unfold sCount
               rw [hc, if_neg (by omega)]
               exact ⟨(by repeat (first | assumption | apply QCw_407 | apply QCw_408 | apply QCw_406 | apply QCw_2037 | apply QCw_2036 | apply QCw_2038 | apply QCw_2039 | apply QCw_2040 | apply QCw_2041 | apply QCw_2042 | apply QCw_2043 | apply QCw_609 | apply QCw_610 | apply QCw_611 | apply QCw_612 | apply QCw_2016 | apply QCw_2017 | apply QCw_2014 | apply QCw_2015 | apply QCw_206 | apply QCw_207 | apply QCw_410 | apply QCw_411 | apply QCw_412 | apply QCw_413 | apply QCw_2025 | refine QC_g (by decide) ?_ | refine QC_sm (by assumption) (by decide) (by decide) ?_)), Or.inl rfl, fun q => absurd q (by decide), fun q => by omega⟩)
            | (have hc : sCnt b n A = A := if_neg (by omega)
               unfold sCount
               rw [hc, if_pos (by omega)]
               exact ⟨(by repeat (first | assumption | apply QCw_407 | apply QCw_408 | apply QCw_406 | apply QCw_2037 | apply QCw_2036 | apply QCw_2038 | apply QCw_2039 | apply QCw_2040 | apply QCw_2041 | apply QCw_2042 | apply QCw_2043 | apply QCw_609 | apply QCw_610 | apply QCw_611 | apply QCw_612 | apply QCw_2016 | apply QCw_2017 | apply QCw_2014 | apply QCw_2015 | apply QCw_206 | apply QCw_207 | apply QCw_410 | apply QCw_411 | apply QCw_412 | apply QCw_413 | apply QCw_2025 | refine QC_g (by decide) ?_ | refine QC_sm (by assumption) (by decide) (by decide) ?_)), Or.inr rfl, fun _ => by rw [up_f (by decide)]; omega, fun _ => rfl⟩)
            | (exfalso; omega)⟩
    · skip
      refine zs_iconst (pc := 27) C dX3_countKnot_27 (by decide) ?_
      exact zs_zret (pc := 28) C hr hlk dX3_countKnot_28 (by omega) ⟨by repeat (first | exact zsm_rf | assumption | refine zsm_C (by decide) ?_ | refine zsm_I (by decide) ?_ | refine zsm_J ?_ | refine zsm_c (by assumption) (by decide) ?_), by
            first
            | (exfalso; omega)
            | (have hc : sCnt b n A = sFail b n 2 A := if_pos (by omega)
               unfold sCount
               rw [hc, if_neg (by omega)]
               exact ⟨(by repeat (first | assumption | apply QCw_407 | apply QCw_408 | apply QCw_406 | apply QCw_2037 | apply QCw_2036 | apply QCw_2038 | apply QCw_2039 | apply QCw_2040 | apply QCw_2041 | apply QCw_2042 | apply QCw_2043 | apply QCw_609 | apply QCw_610 | apply QCw_611 | apply QCw_612 | apply QCw_2016 | apply QCw_2017 | apply QCw_2014 | apply QCw_2015 | apply QCw_206 | apply QCw_207 | apply QCw_410 | apply QCw_411 | apply QCw_412 | apply QCw_413 | apply QCw_2025 | refine QC_g (by decide) ?_ | refine QC_sm (by assumption) (by decide) (by decide) ?_)), Or.inl rfl, fun q => absurd q (by decide), fun q => absurd q f2⟩)
            | (have hc : sCnt b n A = A := if_neg (by omega)
               unfold sCount
               rw [hc, if_neg (by omega)]
               exact ⟨(by repeat (first | assumption | apply QCw_407 | apply QCw_408 | apply QCw_406 | apply QCw_2037 | apply QCw_2036 | apply QCw_2038 | apply QCw_2039 | apply QCw_2040 | apply QCw_2041 | apply QCw_2042 | apply QCw_2043 | apply QCw_609 | apply QCw_610 | apply QCw_611 | apply QCw_612 | apply QCw_2016 | apply QCw_2017 | apply QCw_2014 | apply QCw_2015 | apply QCw_206 | apply QCw_207 | apply QCw_410 | apply QCw_411 | apply QCw_412 | apply QCw_413 | apply QCw_2025 | refine QC_g (by decide) ?_ | refine QC_sm (by assumption) (by decide) (by decide) ?_)), Or.inl rfl, fun q => absurd q (by decide), fun q => by omega⟩)
            | (have hc : sCnt b n A = A := if_neg (by omega)
               unfold sCount
               rw [hc, if_pos (by omega)]
               exact ⟨(by repeat (first | assumption | apply QCw_407 | apply QCw_408 | apply QCw_406 | apply QCw_2037 | apply QCw_2036 | apply QCw_2038 | apply QCw_2039 | apply QCw_2040 | apply QCw_2041 | apply QCw_2042 | apply QCw_2043 | apply QCw_609 | apply QCw_610 | apply QCw_611 | apply QCw_612 | apply QCw_2016 | apply QCw_2017 | apply QCw_2014 | apply QCw_2015 | apply QCw_206 | apply QCw_207 | apply QCw_410 | apply QCw_411 | apply QCw_412 | apply QCw_413 | apply QCw_2025 | refine QC_g (by decide) ?_ | refine QC_sm (by assumption) (by decide) (by decide) ?_)), Or.inr rfl, fun _ => by rw [up_f (by decide)]; omega, fun _ => rfl⟩)
            | (exfalso; omega)⟩
  · skip
    refine zs_aload_n (pc := 15) C dX3_countKnot_15 rfl ?_
    refine zs_iconst (pc := 16) C dX3_countKnot_16 (by decide) ?_
    refine zVv1 (pc := 17) C dX3_countKnot_17 v_X3_114 (c_X3_failF hX (by repeat (first | assumption | apply QCw_407 | apply QCw_408 | apply QCw_406 | apply QCw_2037 | apply QCw_2036 | apply QCw_2038 | apply QCw_2039 | apply QCw_2040 | apply QCw_2041 | apply QCw_2042 | apply QCw_2043 | apply QCw_609 | apply QCw_610 | apply QCw_611 | apply QCw_612 | apply QCw_2016 | apply QCw_2017 | apply QCw_2014 | apply QCw_2015 | apply QCw_206 | apply QCw_207 | apply QCw_410 | apply QCw_411 | apply QCw_412 | apply QCw_413 | apply QCw_2025 | refine QC_g (by decide) ?_ | refine QC_sm (by assumption) (by decide) (by decide) ?_))) (by decide) (by decide) ⟨Nat.zero_le _, Nat.zero_le _⟩ (Nat.le_of_ble_eq_true rfl) (fun G17 hp17 => ?_)
    obtain ⟨hz17, hq17⟩ := hp17
    have hZ17 := hq17
    refine zs_aload_n (pc := 20) C dX3_countKnot_20 rfl ?_
    refine zs_geti (r := 407) (pc := 21) C dX3_countKnot_21 w_X3_38 f_4_7 rfl (r_407 0) (fun v21 e21 l21 u21 => ?_)
    try simp only [QC_407 hZ17, QC_407 hZ] at e21
    try subst v21
    refine zs_if_eq (tgt := 29) (pc := 24) C dX3_countKnot_24 (by decide) (fun h24 => ?_) (fun h24 => ?_)
    · skip
      refine zs_aload_n (pc := 29) C dX3_countKnot_29 rfl ?_
      refine zs_getd (r := 401) (pc := 30) C dX3_countKnot_30 w_X3_21 f_4_1 (by decide) rfl (fun v30 e30 t30 => ?_)
      try simp only [hz17.2, zuI_1, zuI_2, zuJ_1, zuJ_2, zuJ_3, zuP_1, zuP_2, zuP_3, zuC_1, zuC_2, reduceIte, Nat.reduceEqDiff, false_and, and_false, true_and, and_true, and_self, or_true, true_or, or_false, false_or] at e30
      rw [hI] at e30
      subst v30
      refine zs_getf (pc := 33) C dX3_countKnot_33 w_X3_148 f_6_0 (by decide) ?_
      refine zs_dupa (pc := 36) C dX3_countKnot_36 ?_
      refine zs_geti (r := 207) (pc := 37) C dX3_countKnot_37 w_X3_223 f_2_7 rfl (r_207 0) (fun v37 e37 l37 u37 => ?_)
      try simp only [QC_207 hZ17, QC_207 hZ] at e37
      try subst v37
      refine zs_iconst (pc := 40) C dX3_countKnot_40 (by decide) ?_
      first | refine zs_iadd (pc := 41) C dX3_countKnot_41 (by omega) ?_ | refine zs_iaddF (pc := 41) C dX3_countKnot_41 (fun z41 hz411 hz412 => ?_)
      refine zs_puti (r := 207) (pc := 42) C dX3_countKnot_42 w_X3_223 f_2_7 rfl (r_207 0) (by omega) ?_
      refine zs_iconst (pc := 45) C dX3_countKnot_45 (by decide) ?_
      exact zs_zret (pc := 46) C hr hlk dX3_countKnot_46 (by omega) ⟨by repeat (first | exact zsm_rf | assumption | refine zsm_C (by decide) ?_ | refine zsm_I (by decide) ?_ | refine zsm_J ?_ | refine zsm_c (by assumption) (by decide) ?_), by
            first
            | (exfalso; omega)
            | (have hc : sCnt b n A = sFail b n 2 A := if_pos (by omega)
               unfold sCount
               rw [hc, if_neg (by omega)]
               exact ⟨(by repeat (first | assumption | apply QCw_407 | apply QCw_408 | apply QCw_406 | apply QCw_2037 | apply QCw_2036 | apply QCw_2038 | apply QCw_2039 | apply QCw_2040 | apply QCw_2041 | apply QCw_2042 | apply QCw_2043 | apply QCw_609 | apply QCw_610 | apply QCw_611 | apply QCw_612 | apply QCw_2016 | apply QCw_2017 | apply QCw_2014 | apply QCw_2015 | apply QCw_206 | apply QCw_207 | apply QCw_410 | apply QCw_411 | apply QCw_412 | apply QCw_413 | apply QCw_2025 | refine QC_g (by decide) ?_ | refine QC_sm (by assumption) (by decide) (by decide) ?_)), Or.inl rfl, fun q => absurd q (by decide), fun q => absurd q f2⟩)
            | (have hc : sCnt b n A = A := if_neg (by omega)
               unfold sCount
               rw [hc, if_neg (by omega)]
               exact ⟨(by repeat (first | assumption | apply QCw_407 | apply QCw_408 | apply QCw_406 | apply QCw_2037 | apply QCw_2036 | apply QCw_2038 | apply QCw_2039 | apply QCw_2040 | apply QCw_2041 | apply QCw_2042 | apply QCw_2043 | apply QCw_609 | apply QCw_610 | apply QCw_611 | apply QCw_612 | apply QCw_2016 | apply QCw_2017 | apply QCw_2014 | apply QCw_2015 | apply QCw_206 | apply QCw_207 | apply QCw_410 | apply QCw_411 | apply QCw_412 | apply QCw_413 | apply QCw_2025 | refine QC_g (by decide) ?_ | refine QC_sm (by assumption) (by decide) (by decide) ?_)), Or.inl rfl, fun q => absurd q (by decide), fun q => by omega⟩)
            | (have hc : sCnt b n A = A := if_neg (by omega)
               unfold sCount
               rw [hc, if_pos (by omega)]
               exact ⟨(by repeat (first | assumption | apply QCw_407 | apply QCw_408 | apply QCw_406 | apply QCw_2037 | apply QCw_2036 | apply QCw_2038 | apply QCw_2039 | apply QCw_2040 | apply QCw_2041 | apply QCw_2042 | apply QCw_2043 | apply QCw_609 | apply QCw_610 | apply QCw_611 | apply QCw_612 | apply QCw_2016 | apply QCw_2017 | apply QCw_2014 | apply QCw_2015 | apply QCw_206 | apply QCw_207 | apply QCw_410 | apply QCw_411 | apply QCw_412 | apply QCw_413 | apply QCw_2025 | refine QC_g (by decide) ?_ | refine QC_sm (by assumption) (by decide) (by decide) ?_)), Or.inr rfl, fun _ => by rw [up_f (by decide)]; omega, fun _ => rfl⟩)
            | (exfalso; omega)⟩
    · skip
      refine zs_iconst (pc := 27) C dX3_countKnot_27 (by decide) ?_
      exact zs_zret (pc := 28) C hr hlk dX3_countKnot_28 (by omega) ⟨by repeat (first | exact zsm_rf | assumption | refine zsm_C (by decide) ?_ | refine zsm_I (by decide) ?_ | refine zsm_J ?_ | refine zsm_c (by assumption) (by decide) ?_), by
            first
            | (exfalso; omega)
            | (have hc : sCnt b n A = sFail b n 2 A := if_pos (by omega)
               unfold sCount
               rw [hc, if_neg (by omega)]
               exact ⟨(by repeat (first | assumption | apply QCw_407 | apply QCw_408 | apply QCw_406 | apply QCw_2037 | apply QCw_2036 | apply QCw_2038 | apply QCw_2039 | apply QCw_2040 | apply QCw_2041 | apply QCw_2042 | apply QCw_2043 | apply QCw_609 | apply QCw_610 | apply QCw_611 | apply QCw_612 | apply QCw_2016 | apply QCw_2017 | apply QCw_2014 | apply QCw_2015 | apply QCw_206 | apply QCw_207 | apply QCw_410 | apply QCw_411 | apply QCw_412 | apply QCw_413 | apply QCw_2025 | refine QC_g (by decide) ?_ | refine QC_sm (by assumption) (by decide) (by decide) ?_)), Or.inl rfl, fun q => absurd q (by decide), fun q => absurd q f2⟩)
            | (have hc : sCnt b n A = A := if_neg (by omega)
               unfold sCount
               rw [hc, if_neg (by omega)]
               exact ⟨(by repeat (first | assumption | apply QCw_407 | apply QCw_408 | apply QCw_406 | apply QCw_2037 | apply QCw_2036 | apply QCw_2038 | apply QCw_2039 | apply QCw_2040 | apply QCw_2041 | apply QCw_2042 | apply QCw_2043 | apply QCw_609 | apply QCw_610 | apply QCw_611 | apply QCw_612 | apply QCw_2016 | apply QCw_2017 | apply QCw_2014 | apply QCw_2015 | apply QCw_206 | apply QCw_207 | apply QCw_410 | apply QCw_411 | apply QCw_412 | apply QCw_413 | apply QCw_2025 | refine QC_g (by decide) ?_ | refine QC_sm (by assumption) (by decide) (by decide) ?_)), Or.inl rfl, fun q => absurd q (by decide), fun q => by omega⟩)
            | (have hc : sCnt b n A = A := if_neg (by omega)
               unfold sCount
               rw [hc, if_pos (by omega)]
               exact ⟨(by repeat (first | assumption | apply QCw_407 | apply QCw_408 | apply QCw_406 | apply QCw_2037 | apply QCw_2036 | apply QCw_2038 | apply QCw_2039 | apply QCw_2040 | apply QCw_2041 | apply QCw_2042 | apply QCw_2043 | apply QCw_609 | apply QCw_610 | apply QCw_611 | apply QCw_612 | apply QCw_2016 | apply QCw_2017 | apply QCw_2014 | apply QCw_2015 | apply QCw_206 | apply QCw_207 | apply QCw_410 | apply QCw_411 | apply QCw_412 | apply QCw_413 | apply QCw_2025 | refine QC_g (by decide) ?_ | refine QC_sm (by assumption) (by decide) (by decide) ?_)), Or.inr rfl, fun _ => by rw [up_f (by decide)]; omega, fun _ => rfl⟩)
            | (exfalso; omega)⟩

set_option maxHeartbeats 4000000 in
set_option maxRecDepth 100000 in
theorem c_X3_pushF {l : Launch} {Γ : zΓ} {G : zH} {w t : Nat} {b : Nat → Int} {n : Int} {N : Nat} {A : aS} {k : Int} (hX : zXs Γ) (hZ : QC b n N Γ w t A G) (hk : 0 ≤ k ∧ k ≤ 15) : zMet l Γ yX3_push cX3_push 2 none 1 [zr 4 w, zi k] G (zpv (fun G' => zsm [402, 403, 404, 405, 406, 407, 408, 409, 410, 411, 412, 413, 2025, 206, 207, 2014, 2015, 2016, 2017, 2036, 2037, 2038, 2039, 2040, 2041, 2042, 2043, 609, 610, 611, 612] G G' ∧ QC b n N Γ w t (sPush b n k A) G')) := by
  have hI := QC_t hZ
  refine zMet_of RX3 hX (by decide) rfl (Nat.le_of_ble_eq_true rfl) ?_
  intro p e s m args below meth c C hr hlk
  show Z p l e (zrm 1) s m args below meth c Γ 2 0 0 (MQ below (zQc Γ (zpv (fun G' => zsm [402, 403, 404, 405, 406, 407, 408, 409, 410, 411, 412, 413, 2025, 206, 207, 2014, 2015, 2016, 2017, 2036, 2037, 2038, 2039, 2040, 2041, 2042, 2043, 609, 610, 611, 612] G G' ∧ QC b n N Γ w t (sPush b n k A) G'))) args s 0 0 (zA Γ)) 0 [some (zr 4 w), some (zi k)] [] G
  refine zs_loc 1 rfl (fun ha1 hb1 => ?_)
  refine zs_aload_n (pc := 0) C dX3_push_0 rfl ?_
  refine zs_geti (r := 410) (pc := 1) C dX3_push_1 w_X3_165 f_4_10 rfl (r_410 0) (fun v1 e1 l1 u1 => ?_)
  try simp only [QC_410 hZ] at e1
  try subst v1
  refine zs_aload_n (pc := 4) C dX3_push_4 rfl ?_
  refine zs_getf (pc := 5) C dX3_push_5 w_X3_27 f_4_9 (by decide) ?_
  refine zs_alen (pc := 8) C dX3_push_8 a_25 (by decide) (by decide) ?_
  refine zs_icmp_ge (tgt := 32) (pc := 9) C dX3_push_9 (by decide) (fun h9 => ?_) (fun h9 => ?_)
  · skip
    refine zs_aload_n (pc := 32) C dX3_push_32 rfl ?_
    refine zVv0 (pc := 33) C dX3_push_33 v_X3_51 (c_X3_nextF hX (QN_of (by repeat (first | assumption | apply QCw_407 | apply QCw_408 | apply QCw_406 | apply QCw_2037 | apply QCw_2036 | apply QCw_2038 | apply QCw_2039 | apply QCw_2040 | apply QCw_2041 | apply QCw_2042 | apply QCw_2043 | apply QCw_609 | apply QCw_610 | apply QCw_611 | apply QCw_612 | apply QCw_2016 | apply QCw_2017 | apply QCw_2014 | apply QCw_2015 | apply QCw_206 | apply QCw_207 | apply QCw_410 | apply QCw_411 | apply QCw_412 | apply QCw_413 | apply QCw_2025 | refine QC_g (by decide) ?_ | refine QC_sm (by assumption) (by decide) (by decide) ?_)))) (by decide) (by decide) ⟨Nat.zero_le _, Nat.zero_le _⟩ (Nat.le_of_ble_eq_true rfl) (fun G33 hp33 => ?_)
    obtain ⟨hz33, hq33⟩ := hp33
    have hZ33 := hq33
    exact zs_vret (pc := 36) C hr hlk dX3_push_36 ⟨by repeat (first | exact zsm_rf | assumption | refine zsm_C (by decide) ?_ | refine zsm_I (by decide) ?_ | refine zsm_J ?_ | refine zsm_c (by assumption) (by decide) ?_), by unfold sPush; (repeat' split) <;> first | assumption | (exfalso; omega) | exact (by repeat (first | assumption | apply QCw_407 | apply QCw_408 | apply QCw_406 | apply QCw_2037 | apply QCw_2036 | apply QCw_2038 | apply QCw_2039 | apply QCw_2040 | apply QCw_2041 | apply QCw_2042 | apply QCw_2043 | apply QCw_609 | apply QCw_610 | apply QCw_611 | apply QCw_612 | apply QCw_2016 | apply QCw_2017 | apply QCw_2014 | apply QCw_2015 | apply QCw_206 | apply QCw_207 | apply QCw_410 | apply QCw_411 | apply QCw_412 | apply QCw_413 | apply QCw_2025 | refine QC_g (by decide) ?_ | refine QC_sm (by assumption) (by decide) (by decide) ?_))⟩
  · skip
    refine zs_aload_n (pc := 12) C dX3_push_12 rfl ?_
    refine zs_getf (pc := 13) C dX3_push_13 w_X3_27 f_4_9 (by decide) ?_
    refine zs_aload_n (pc := 16) C dX3_push_16 rfl ?_
    refine zs_geti (r := 410) (pc := 17) C dX3_push_17 w_X3_165 f_4_10 rfl (r_410 0) (fun v17 e17 l17 u17 => ?_)
    try simp only [QC_410 hZ] at e17
    try subst v17
    refine zs_iload_n (pc := 20) C dX3_push_20 rfl ?_
    refine zs_iast (r := 2025) (pc := 21) C dX3_push_21 a_25 (by decide) (by omega) rfl (r_2025 _) (by omega) ?_
    refine zs_aload_n (pc := 22) C dX3_push_22 rfl ?_
    refine zs_dupa (pc := 23) C dX3_push_23 ?_
    refine zs_geti (r := 410) (pc := 24) C dX3_push_24 w_X3_165 f_4_10 rfl (r_410 0) (fun v24 e24 l24 u24 => ?_)
    try simp only [zuI_1, zuI_2, zuJ_1, zuJ_2, zuJ_3, zuP_1, zuP_2, zuP_3, zuC_1, zuC_2, reduceIte, Nat.reduceEqDiff, false_and, and_false, true_and, and_true, and_self, or_true, true_or, or_false, false_or] at e24
    try simp only [QC_410 hZ] at e24
    try subst v24
    refine zs_iconst (pc := 27) C dX3_push_27 (by decide) ?_
    first | refine zs_iadd (pc := 28) C dX3_push_28 (by omega) ?_ | refine zs_iaddF (pc := 28) C dX3_push_28 (fun z28 hz281 hz282 => ?_)
    refine zs_puti (r := 410) (pc := 29) C dX3_push_29 w_X3_165 f_4_10 rfl (r_410 0) (by omega) ?_
    refine zs_aload_n (pc := 32) C dX3_push_32 rfl ?_
    refine zVv0 (pc := 33) C dX3_push_33 v_X3_51 (c_X3_nextF hX (QN_of (by repeat (first | assumption | apply QCw_407 | apply QCw_408 | apply QCw_406 | apply QCw_2037 | apply QCw_2036 | apply QCw_2038 | apply QCw_2039 | apply QCw_2040 | apply QCw_2041 | apply QCw_2042 | apply QCw_2043 | apply QCw_609 | apply QCw_610 | apply QCw_611 | apply QCw_612 | apply QCw_2016 | apply QCw_2017 | apply QCw_2014 | apply QCw_2015 | apply QCw_206 | apply QCw_207 | apply QCw_410 | apply QCw_411 | apply QCw_412 | apply QCw_413 | apply QCw_2025 | refine QC_g (by decide) ?_ | refine QC_sm (by assumption) (by decide) (by decide) ?_)))) (by decide) (by decide) ⟨Nat.zero_le _, Nat.zero_le _⟩ (Nat.le_of_ble_eq_true rfl) (fun G33 hp33 => ?_)
    obtain ⟨hz33, hq33⟩ := hp33
    try simp only [zuI_1, zuI_2, zuJ_1, zuJ_2, zuJ_3, zuP_1, zuP_2, zuP_3, zuC_1, zuC_2, reduceIte, Nat.reduceEqDiff, false_and, and_false, true_and, and_true, and_self, or_true, true_or, or_false, false_or] at hq33
    have hZ33 := hq33
    exact zs_vret (pc := 36) C hr hlk dX3_push_36 ⟨by repeat (first | exact zsm_rf | assumption | refine zsm_C (by decide) ?_ | refine zsm_I (by decide) ?_ | refine zsm_J ?_ | refine zsm_c (by assumption) (by decide) ?_), by unfold sPush; (repeat' split) <;> first | assumption | (exfalso; omega) | exact (by repeat (first | assumption | apply QCw_407 | apply QCw_408 | apply QCw_406 | apply QCw_2037 | apply QCw_2036 | apply QCw_2038 | apply QCw_2039 | apply QCw_2040 | apply QCw_2041 | apply QCw_2042 | apply QCw_2043 | apply QCw_609 | apply QCw_610 | apply QCw_611 | apply QCw_612 | apply QCw_2016 | apply QCw_2017 | apply QCw_2014 | apply QCw_2015 | apply QCw_206 | apply QCw_207 | apply QCw_410 | apply QCw_411 | apply QCw_412 | apply QCw_413 | apply QCw_2025 | refine QC_g (by decide) ?_ | refine QC_sm (by assumption) (by decide) (by decide) ?_))⟩

set_option maxHeartbeats 4000000 in
set_option maxRecDepth 100000 in
theorem c_X3_writeSideF {l : Launch} {Γ : zΓ} {G : zH} {w t : Nat} {b : Nat → Int} {n : Int} {N : Nat} {A : aS} {k q : Int} (hX : zXs Γ) (hZ : QC b n N Γ w t A G)  : zMet l Γ yX3_writeSide cX3_writeSide 3 none 2 [zr 4 w, zi k, zi q] G (zpv (fun G' => zsm [402, 403, 404, 405, 406, 407, 408, 409, 410, 411, 412, 413, 2025, 206, 207, 2014, 2015, 2016, 2017, 2036, 2037, 2038, 2039, 2040, 2041, 2042, 2043, 609, 610, 611, 612] G G' ∧ QC b n N Γ w t (sLeaf b n k q A) G')) := by
  have hI := QC_t hZ
  refine zMet_of RX3 hX (by decide) rfl (Nat.le_of_ble_eq_true rfl) ?_
  intro p e s m args below meth c C hr hlk
  show Z p l e (zrm 2) s m args below meth c Γ 3 0 0 (MQ below (zQc Γ (zpv (fun G' => zsm [402, 403, 404, 405, 406, 407, 408, 409, 410, 411, 412, 413, 2025, 206, 207, 2014, 2015, 2016, 2017, 2036, 2037, 2038, 2039, 2040, 2041, 2042, 2043, 609, 610, 611, 612] G G' ∧ QC b n N Γ w t (sLeaf b n k q A) G'))) args s 0 0 (zA Γ)) 0 [some (zr 4 w), some (zi k), some (zi q)] [] G
  refine zs_loc 1 rfl (fun ha1 hb1 => ?_)
  refine zs_loc 2 rfl (fun ha2 hb2 => ?_)
  refine zs_aload_n (pc := 0) C dX3_writeSide_0 rfl ?_
  refine zVi0 (pc := 1) C dX3_writeSide_1 v_X3_197 (c_X3_countKnotF hX (by repeat (first | assumption | apply QCw_407 | apply QCw_408 | apply QCw_406 | apply QCw_2037 | apply QCw_2036 | apply QCw_2038 | apply QCw_2039 | apply QCw_2040 | apply QCw_2041 | apply QCw_2042 | apply QCw_2043 | apply QCw_609 | apply QCw_610 | apply QCw_611 | apply QCw_612 | apply QCw_2016 | apply QCw_2017 | apply QCw_2014 | apply QCw_2015 | apply QCw_206 | apply QCw_207 | apply QCw_410 | apply QCw_411 | apply QCw_412 | apply QCw_413 | apply QCw_2025 | refine QC_g (by decide) ?_ | refine QC_sm (by assumption) (by decide) (by decide) ?_))) (by decide) (by decide) ⟨Nat.zero_le _, Nat.zero_le _⟩ (Nat.le_of_ble_eq_true rfl) (fun x1 G1 l1 u1 hp1 => ?_)
  obtain ⟨hz1, hq1⟩ := hp1
  have hZ1 := hq1.1
  have hX1 := hq1.2
  refine zs_if_eq (tgt := 28) (pc := 4) C dX3_writeSide_4 (by decide) (fun h4 => ?_) (fun h4 => ?_)
  · skip
    exact zs_vret (pc := 28) C hr hlk dX3_writeSide_28 ⟨by repeat (first | exact zsm_rf | assumption | refine zsm_C (by decide) ?_ | refine zsm_I (by decide) ?_ | refine zsm_J ?_ | refine zsm_c (by assumption) (by decide) ?_), by unfold sLeaf; (repeat' split) <;> first | assumption | (exfalso; omega) | exact (by repeat (first | assumption | apply QCw_407 | apply QCw_408 | apply QCw_406 | apply QCw_2037 | apply QCw_2036 | apply QCw_2038 | apply QCw_2039 | apply QCw_2040 | apply QCw_2041 | apply QCw_2042 | apply QCw_2043 | apply QCw_609 | apply QCw_610 | apply QCw_611 | apply QCw_612 | apply QCw_2016 | apply QCw_2017 | apply QCw_2014 | apply QCw_2015 | apply QCw_206 | apply QCw_207 | apply QCw_410 | apply QCw_411 | apply QCw_412 | apply QCw_413 | apply QCw_2025 | refine QC_g (by decide) ?_ | refine QC_sm (by assumption) (by decide) (by decide) ?_))⟩
  · skip
    refine zs_aload_n (pc := 7) C dX3_writeSide_7 rfl ?_
    refine zs_getd (r := 401) (pc := 8) C dX3_writeSide_8 w_X3_21 f_4_1 (by decide) rfl (fun v8 e8 t8 => ?_)
    try simp only [hz1.2, zuI_1, zuI_2, zuJ_1, zuJ_2, zuJ_3, zuP_1, zuP_2, zuP_3, zuC_1, zuC_2, reduceIte, Nat.reduceEqDiff, false_and, and_false, true_and, and_true, and_self, or_true, true_or, or_false, false_or] at e8
    rw [hI] at e8
    subst v8
    refine zs_getf (pc := 11) C dX3_writeSide_11 w_X3_148 f_6_0 (by decide) ?_
    refine zs_iload_n (pc := 14) C dX3_writeSide_14 rfl ?_
    refine zs_iload_n (pc := 15) C dX3_writeSide_15 rfl ?_
    refine zVv2 (pc := 16) C dX3_writeSide_16 v_X3_206 (c_X1_writeF hX (QC_gLeaf (k := q) hZ1)) (by decide) (by decide) ⟨Nat.zero_le _, Nat.zero_le _⟩ (Nat.le_of_ble_eq_true rfl) (fun G16 hp16 => ?_)
    obtain ⟨hz16, hq16⟩ := hp16
    have hZ16 := hq16
    refine zs_aload_n (pc := 19) C dX3_writeSide_19 rfl ?_
    refine zs_iconst (pc := 20) C dX3_writeSide_20 (by decide) ?_
    refine zs_putz (r := 412) (pc := 21) C dX3_writeSide_21 w_X3_171 f_4_12 rfl (r_412 0) (by omega) (by omega) ?_
    refine zs_aload_n (pc := 24) C dX3_writeSide_24 rfl ?_
    refine zVv0 (pc := 25) C dX3_writeSide_25 v_X3_51 (c_X3_nextF hX (QN_of (by repeat (first | assumption | apply QCw_407 | apply QCw_408 | apply QCw_406 | apply QCw_2037 | apply QCw_2036 | apply QCw_2038 | apply QCw_2039 | apply QCw_2040 | apply QCw_2041 | apply QCw_2042 | apply QCw_2043 | apply QCw_609 | apply QCw_610 | apply QCw_611 | apply QCw_612 | apply QCw_2016 | apply QCw_2017 | apply QCw_2014 | apply QCw_2015 | apply QCw_206 | apply QCw_207 | apply QCw_410 | apply QCw_411 | apply QCw_412 | apply QCw_413 | apply QCw_2025 | refine QC_g (by decide) ?_ | refine QC_sm (by assumption) (by decide) (by decide) ?_)))) (by decide) (by decide) ⟨Nat.zero_le _, Nat.zero_le _⟩ (Nat.le_of_ble_eq_true rfl) (fun G25 hp25 => ?_)
    obtain ⟨hz25, hq25⟩ := hp25
    try simp only [zuI_1, zuI_2, zuJ_1, zuJ_2, zuJ_3, zuP_1, zuP_2, zuP_3, zuC_1, zuC_2, reduceIte, Nat.reduceEqDiff, false_and, and_false, true_and, and_true, and_self, or_true, true_or, or_false, false_or] at hq25
    have hZ25 := hq25
    exact zs_vret (pc := 28) C hr hlk dX3_writeSide_28 ⟨by repeat (first | exact zsm_rf | assumption | refine zsm_C (by decide) ?_ | refine zsm_I (by decide) ?_ | refine zsm_J ?_ | refine zsm_c (by assumption) (by decide) ?_), by unfold sLeaf; (repeat' split) <;> first | assumption | (exfalso; omega) | exact (by repeat (first | assumption | apply QCw_407 | apply QCw_408 | apply QCw_406 | apply QCw_2037 | apply QCw_2036 | apply QCw_2038 | apply QCw_2039 | apply QCw_2040 | apply QCw_2041 | apply QCw_2042 | apply QCw_2043 | apply QCw_609 | apply QCw_610 | apply QCw_611 | apply QCw_612 | apply QCw_2016 | apply QCw_2017 | apply QCw_2014 | apply QCw_2015 | apply QCw_206 | apply QCw_207 | apply QCw_410 | apply QCw_411 | apply QCw_412 | apply QCw_413 | apply QCw_2025 | refine QC_g (by decide) ?_ | refine QC_sm (by assumption) (by decide) (by decide) ?_))⟩

set_option maxHeartbeats 4000000 in
set_option maxRecDepth 100000 in
theorem c_X3_readOpenF {l : Launch} {Γ : zΓ} {G : zH} {w t : Nat} {b : Nat → Int} {n : Int} {N : Nat} {A : aS}  (hX : zXs Γ) (hZ : QC b n N Γ w t A G)  : zMet l Γ yX3_readOpen cX3_readOpen 1 none 2 [zr 4 w] G (zpv (fun G' => zsm [402, 403, 404, 405, 406, 407, 408, 409, 410, 411, 412, 413, 2025, 206, 207, 2014, 2015, 2016, 2017, 2036, 2037, 2038, 2039, 2040, 2041, 2042, 2043, 609, 610, 611, 612] G G' ∧ QC b n N Γ w t (sOpen b n A) G')) := by
  have hI := QC_t hZ
  refine zMet_of RX3 hX (by decide) rfl (Nat.le_of_ble_eq_true rfl) ?_
  intro p e s m args below meth c C hr hlk
  show Z p l e (zrm 2) s m args below meth c Γ 1 0 0 (MQ below (zQc Γ (zpv (fun G' => zsm [402, 403, 404, 405, 406, 407, 408, 409, 410, 411, 412, 413, 2025, 206, 207, 2014, 2015, 2016, 2017, 2036, 2037, 2038, 2039, 2040, 2041, 2042, 2043, 609, 610, 611, 612] G G' ∧ QC b n N Γ w t (sOpen b n A) G'))) args s 0 0 (zA Γ)) 0 [some (zr 4 w)] [] G
  refine zs_aload_n (pc := 0) C dX3_readOpen_0 rfl ?_
  refine zs_geti (r := 411) (pc := 1) C dX3_readOpen_1 w_X3_168 f_4_11 rfl (r_411 0) (fun v1 e1 l1 u1 => ?_)
  try simp only [QC_411 hZ] at e1
  try subst v1
  refine zs_bipush (pc := 4) C dX3_readOpen_4 (by decide) (by decide) ?_
  refine zs_icmp_lt (tgt := 15) (pc := 6) C dX3_readOpen_6 (by decide) (fun h6 => ?_) (fun h6 => ?_)
  · skip
    refine zs_aload_n (pc := 15) C dX3_readOpen_15 rfl ?_
    refine zs_dupa (pc := 16) C dX3_readOpen_16 ?_
    refine zs_geti (r := 411) (pc := 17) C dX3_readOpen_17 w_X3_168 f_4_11 rfl (r_411 0) (fun v17 e17 l17 u17 => ?_)
    try simp only [QC_411 hZ] at e17
    try subst v17
    refine zs_iconst (pc := 20) C dX3_readOpen_20 (by decide) ?_
    first | refine zs_iadd (pc := 21) C dX3_readOpen_21 (by omega) ?_ | refine zs_iaddF (pc := 21) C dX3_readOpen_21 (fun z21 hz211 hz212 => ?_)
    refine zs_puti (r := 411) (pc := 22) C dX3_readOpen_22 w_X3_168 f_4_11 rfl (r_411 0) (by omega) ?_
    refine zs_aload_n (pc := 25) C dX3_readOpen_25 rfl ?_
    refine zs_iconst (pc := 26) C dX3_readOpen_26 (by decide) ?_
    refine zs_putz (r := 413) (pc := 27) C dX3_readOpen_27 w_X3_175 f_4_13 rfl (r_413 0) (by omega) (by omega) ?_
    refine zs_aload_n (pc := 30) C dX3_readOpen_30 rfl ?_
    refine zs_bipush (pc := 31) C dX3_readOpen_31 (by decide) (by decide) ?_
    refine zVv1 (pc := 33) C dX3_readOpen_33 v_X3_200 (c_X3_pushF hX (by repeat (first | assumption | apply QCw_407 | apply QCw_408 | apply QCw_406 | apply QCw_2037 | apply QCw_2036 | apply QCw_2038 | apply QCw_2039 | apply QCw_2040 | apply QCw_2041 | apply QCw_2042 | apply QCw_2043 | apply QCw_609 | apply QCw_610 | apply QCw_611 | apply QCw_612 | apply QCw_2016 | apply QCw_2017 | apply QCw_2014 | apply QCw_2015 | apply QCw_206 | apply QCw_207 | apply QCw_410 | apply QCw_411 | apply QCw_412 | apply QCw_413 | apply QCw_2025 | refine QC_g (by decide) ?_ | refine QC_sm (by assumption) (by decide) (by decide) ?_)) (by first | omega | (simp only [zuI_1, zuI_2, zuJ_1, zuJ_2, zuJ_3, zuP_1, zuP_2, zuP_3, zuC_1, zuC_2, reduceIte, Nat.reduceEqDiff, false_and, and_false, true_and, and_true, and_self, or_true, true_or, or_false, false_or]; omega))) (by decide) (by decide) ⟨Nat.zero_le _, Nat.zero_le _⟩ (Nat.le_of_ble_eq_true rfl) (fun G33 hp33 => ?_)
    obtain ⟨hz33, hq33⟩ := hp33
    try simp only [zuI_1, zuI_2, zuJ_1, zuJ_2, zuJ_3, zuP_1, zuP_2, zuP_3, zuC_1, zuC_2, reduceIte, Nat.reduceEqDiff, false_and, and_false, true_and, and_true, and_self, or_true, true_or, or_false, false_or] at hq33
    have hZ33 := hq33
    exact zs_vret (pc := 36) C hr hlk dX3_readOpen_36 ⟨by repeat (first | exact zsm_rf | assumption | refine zsm_C (by decide) ?_ | refine zsm_I (by decide) ?_ | refine zsm_J ?_ | refine zsm_c (by assumption) (by decide) ?_), by unfold sOpen; (repeat' split) <;> first | assumption | (exfalso; omega) | exact (by repeat (first | assumption | apply QCw_407 | apply QCw_408 | apply QCw_406 | apply QCw_2037 | apply QCw_2036 | apply QCw_2038 | apply QCw_2039 | apply QCw_2040 | apply QCw_2041 | apply QCw_2042 | apply QCw_2043 | apply QCw_609 | apply QCw_610 | apply QCw_611 | apply QCw_612 | apply QCw_2016 | apply QCw_2017 | apply QCw_2014 | apply QCw_2015 | apply QCw_206 | apply QCw_207 | apply QCw_410 | apply QCw_411 | apply QCw_412 | apply QCw_413 | apply QCw_2025 | refine QC_g (by decide) ?_ | refine QC_sm (by assumption) (by decide) (by decide) ?_))⟩
  · skip
    refine zs_aload_n (pc := 9) C dX3_readOpen_9 rfl ?_
    refine zs_iconst (pc := 10) C dX3_readOpen_10 (by decide) ?_
    refine zVv1 (pc := 11) C dX3_readOpen_11 v_X3_114 (c_X3_failF hX (by repeat (first | assumption | apply QCw_407 | apply QCw_408 | apply QCw_406 | apply QCw_2037 | apply QCw_2036 | apply QCw_2038 | apply QCw_2039 | apply QCw_2040 | apply QCw_2041 | apply QCw_2042 | apply QCw_2043 | apply QCw_609 | apply QCw_610 | apply QCw_611 | apply QCw_612 | apply QCw_2016 | apply QCw_2017 | apply QCw_2014 | apply QCw_2015 | apply QCw_206 | apply QCw_207 | apply QCw_410 | apply QCw_411 | apply QCw_412 | apply QCw_413 | apply QCw_2025 | refine QC_g (by decide) ?_ | refine QC_sm (by assumption) (by decide) (by decide) ?_))) (by decide) (by decide) ⟨Nat.zero_le _, Nat.zero_le _⟩ (Nat.le_of_ble_eq_true rfl) (fun G11 hp11 => ?_)
    obtain ⟨hz11, hq11⟩ := hp11
    have hZ11 := hq11
    exact zs_vret (pc := 14) C hr hlk dX3_readOpen_14 ⟨by repeat (first | exact zsm_rf | assumption | refine zsm_C (by decide) ?_ | refine zsm_I (by decide) ?_ | refine zsm_J ?_ | refine zsm_c (by assumption) (by decide) ?_), by unfold sOpen; (repeat' split) <;> first | assumption | (exfalso; omega) | exact (by repeat (first | assumption | apply QCw_407 | apply QCw_408 | apply QCw_406 | apply QCw_2037 | apply QCw_2036 | apply QCw_2038 | apply QCw_2039 | apply QCw_2040 | apply QCw_2041 | apply QCw_2042 | apply QCw_2043 | apply QCw_609 | apply QCw_610 | apply QCw_611 | apply QCw_612 | apply QCw_2016 | apply QCw_2017 | apply QCw_2014 | apply QCw_2015 | apply QCw_206 | apply QCw_207 | apply QCw_410 | apply QCw_411 | apply QCw_412 | apply QCw_413 | apply QCw_2025 | refine QC_g (by decide) ?_ | refine QC_sm (by assumption) (by decide) (by decide) ?_))⟩

set_option maxHeartbeats 4000000 in
set_option maxRecDepth 100000 in
theorem c_X3_knotHereF {l : Launch} {Γ : zΓ} {G : zH} {w t : Nat} {b : Nat → Int} {n : Int} {N : Nat} {A : aS}  (hX : zXs Γ) (hZ : QC b n N Γ w t A G)  : zMet l Γ yX3_knotHere cX3_knotHere 1 (some .int) 0 [zr 4 w] G (zpi (fun x G' => G' = G ∧ (x = sKnot b n A ∧ (x = -1 ∨ (2 ≤ x ∧ x ≤ 14))))) := by
  have hI := QC_t hZ
  have q404 := QC_404 hZ
  refine zMet_of RX3 hX (by decide) rfl (Nat.le_of_ble_eq_true rfl) ?_
  intro p e s m args below meth c C hr hlk
  show Z p l e (zrm 0) s m args below meth c Γ 1 0 0 (MQ below (zQc Γ (zpi (fun x G' => G' = G ∧ (x = sKnot b n A ∧ (x = -1 ∨ (2 ≤ x ∧ x ≤ 14)))))) args s 0 0 (zA Γ)) 0 [some (zr 4 w)] [] G
  refine zs_aload_n (pc := 0) C dX3_knotHere_0 rfl ?_
  refine zs_geti (r := 403) (pc := 1) C dX3_knotHere_1 w_X3_54 f_4_3 rfl (r_403 0) (fun v1 e1 l1 u1 => ?_)
  try simp only [QC_403 hZ] at e1
  try subst v1
  refine zs_iconst (pc := 4) C dX3_knotHere_4 (by decide) ?_
  refine zs_icmp_ne (tgt := 30) (pc := 5) C dX3_knotHere_5 (by decide) (fun h5 => ?_) (fun h5 => ?_)
  · skip
    refine zs_aload_n (pc := 30) C dX3_knotHere_30 rfl ?_
    refine zs_geti (r := 405) (pc := 31) C dX3_knotHere_31 w_X3_70 f_4_5 rfl (r_405 0) (fun v31 e31 l31 u31 => ?_)
    try simp only [QC_405 hZ] at e31
    try subst v31
    refine zs_bipush (pc := 34) C dX3_knotHere_34 (by decide) (by decide) ?_
    refine zs_icmp_ne (tgt := 43) (pc := 36) C dX3_knotHere_36 (by decide) (fun h36 => ?_) (fun h36 => ?_)
    · skip
      refine zs_aload_n (pc := 43) C dX3_knotHere_43 rfl ?_
      refine zs_geti (r := 405) (pc := 44) C dX3_knotHere_44 w_X3_70 f_4_5 rfl (r_405 0) (fun v44 e44 l44 u44 => ?_)
      try simp only [QC_405 hZ] at e44
      try subst v44
      refine zs_bipush (pc := 47) C dX3_knotHere_47 (by decide) (by decide) ?_
      refine zs_icmp_ne (tgt := 56) (pc := 49) C dX3_knotHere_49 (by decide) (fun h49 => ?_) (fun h49 => ?_)
      · skip
        refine zs_iconst (pc := 56) C dX3_knotHere_56 (by decide) ?_
        exact zs_iret (pc := 57) C hr hlk dX3_knotHere_57 ⟨rfl, ⟨(by unfold sKnot; (repeat' split) <;> first | rfl | omega), by omega⟩⟩
      · skip
        refine zs_iconst (pc := 52) C dX3_knotHere_52 (by decide) ?_
        refine zs_goto (tgt := 57) (pc := 53) C dX3_knotHere_53 (by decide) ?_
        exact zs_iret (pc := 57) C hr hlk dX3_knotHere_57 ⟨rfl, ⟨(by unfold sKnot; (repeat' split) <;> first | rfl | omega), by omega⟩⟩
    · skip
      refine zs_iconst (pc := 39) C dX3_knotHere_39 (by decide) ?_
      refine zs_goto (tgt := 57) (pc := 40) C dX3_knotHere_40 (by decide) ?_
      exact zs_iret (pc := 57) C hr hlk dX3_knotHere_57 ⟨rfl, ⟨(by unfold sKnot; (repeat' split) <;> first | rfl | omega), by omega⟩⟩
  · skip
    refine zs_aload_n (pc := 8) C dX3_knotHere_8 rfl ?_
    refine zs_geti (r := 404) (pc := 9) C dX3_knotHere_9 w_X3_68 f_4_4 rfl (r_404 0) (fun v9 e9 l9 u9 => ?_)
    refine zs_iconst (pc := 12) C dX3_knotHere_12 (by decide) ?_
    refine zs_icmp_lt (tgt := 30) (pc := 13) C dX3_knotHere_13 (by decide) (fun h13 => ?_) (fun h13 => ?_)
    · skip
      refine zs_aload_n (pc := 30) C dX3_knotHere_30 rfl ?_
      refine zs_geti (r := 405) (pc := 31) C dX3_knotHere_31 w_X3_70 f_4_5 rfl (r_405 0) (fun v31 e31 l31 u31 => ?_)
      try simp only [QC_405 hZ] at e31
      try subst v31
      refine zs_bipush (pc := 34) C dX3_knotHere_34 (by decide) (by decide) ?_
      refine zs_icmp_ne (tgt := 43) (pc := 36) C dX3_knotHere_36 (by decide) (fun h36 => ?_) (fun h36 => ?_)
      · skip
        refine zs_aload_n (pc := 43) C dX3_knotHere_43 rfl ?_
        refine zs_geti (r := 405) (pc := 44) C dX3_knotHere_44 w_X3_70 f_4_5 rfl (r_405 0) (fun v44 e44 l44 u44 => ?_)
        try simp only [QC_405 hZ] at e44
        try subst v44
        refine zs_bipush (pc := 47) C dX3_knotHere_47 (by decide) (by decide) ?_
        refine zs_icmp_ne (tgt := 56) (pc := 49) C dX3_knotHere_49 (by decide) (fun h49 => ?_) (fun h49 => ?_)
        · skip
          refine zs_iconst (pc := 56) C dX3_knotHere_56 (by decide) ?_
          exact zs_iret (pc := 57) C hr hlk dX3_knotHere_57 ⟨rfl, ⟨(by unfold sKnot; (repeat' split) <;> first | rfl | omega), by omega⟩⟩
        · skip
          refine zs_iconst (pc := 52) C dX3_knotHere_52 (by decide) ?_
          refine zs_goto (tgt := 57) (pc := 53) C dX3_knotHere_53 (by decide) ?_
          exact zs_iret (pc := 57) C hr hlk dX3_knotHere_57 ⟨rfl, ⟨(by unfold sKnot; (repeat' split) <;> first | rfl | omega), by omega⟩⟩
      · skip
        refine zs_iconst (pc := 39) C dX3_knotHere_39 (by decide) ?_
        refine zs_goto (tgt := 57) (pc := 40) C dX3_knotHere_40 (by decide) ?_
        exact zs_iret (pc := 57) C hr hlk dX3_knotHere_57 ⟨rfl, ⟨(by unfold sKnot; (repeat' split) <;> first | rfl | omega), by omega⟩⟩
    · skip
      refine zs_aload_n (pc := 16) C dX3_knotHere_16 rfl ?_
      refine zs_geti (r := 404) (pc := 17) C dX3_knotHere_17 w_X3_68 f_4_4 rfl (r_404 0) (fun v17 e17 l17 u17 => ?_)
      refine zs_bipush (pc := 20) C dX3_knotHere_20 (by decide) (by decide) ?_
      refine zs_icmp_gt (tgt := 30) (pc := 22) C dX3_knotHere_22 (by decide) (fun h22 => ?_) (fun h22 => ?_)
      · skip
        refine zs_aload_n (pc := 30) C dX3_knotHere_30 rfl ?_
        refine zs_geti (r := 405) (pc := 31) C dX3_knotHere_31 w_X3_70 f_4_5 rfl (r_405 0) (fun v31 e31 l31 u31 => ?_)
        try simp only [QC_405 hZ] at e31
        try subst v31
        refine zs_bipush (pc := 34) C dX3_knotHere_34 (by decide) (by decide) ?_
        refine zs_icmp_ne (tgt := 43) (pc := 36) C dX3_knotHere_36 (by decide) (fun h36 => ?_) (fun h36 => ?_)
        · skip
          refine zs_aload_n (pc := 43) C dX3_knotHere_43 rfl ?_
          refine zs_geti (r := 405) (pc := 44) C dX3_knotHere_44 w_X3_70 f_4_5 rfl (r_405 0) (fun v44 e44 l44 u44 => ?_)
          try simp only [QC_405 hZ] at e44
          try subst v44
          refine zs_bipush (pc := 47) C dX3_knotHere_47 (by decide) (by decide) ?_
          refine zs_icmp_ne (tgt := 56) (pc := 49) C dX3_knotHere_49 (by decide) (fun h49 => ?_) (fun h49 => ?_)
          · skip
            refine zs_iconst (pc := 56) C dX3_knotHere_56 (by decide) ?_
            exact zs_iret (pc := 57) C hr hlk dX3_knotHere_57 ⟨rfl, ⟨(by unfold sKnot; (repeat' split) <;> first | rfl | omega), by omega⟩⟩
          · skip
            refine zs_iconst (pc := 52) C dX3_knotHere_52 (by decide) ?_
            refine zs_goto (tgt := 57) (pc := 53) C dX3_knotHere_53 (by decide) ?_
            exact zs_iret (pc := 57) C hr hlk dX3_knotHere_57 ⟨rfl, ⟨(by unfold sKnot; (repeat' split) <;> first | rfl | omega), by omega⟩⟩
        · skip
          refine zs_iconst (pc := 39) C dX3_knotHere_39 (by decide) ?_
          refine zs_goto (tgt := 57) (pc := 40) C dX3_knotHere_40 (by decide) ?_
          exact zs_iret (pc := 57) C hr hlk dX3_knotHere_57 ⟨rfl, ⟨(by unfold sKnot; (repeat' split) <;> first | rfl | omega), by omega⟩⟩
      · skip
        refine zs_aload_n (pc := 25) C dX3_knotHere_25 rfl ?_
        refine zs_geti (r := 404) (pc := 26) C dX3_knotHere_26 w_X3_68 f_4_4 rfl (r_404 0) (fun v26 e26 l26 u26 => ?_)
        exact zs_iret (pc := 29) C hr hlk dX3_knotHere_29 ⟨rfl, ⟨(by unfold sKnot; (repeat' split) <;> first | rfl | omega), by omega⟩⟩

set_option maxHeartbeats 4000000 in
set_option maxRecDepth 100000 in
theorem c_X3_releaseF {l : Launch} {Γ : zΓ} {G : zH} {w t : Nat} {b : Nat → Int} {n : Int} {N : Nat} {A : aS} {k : Int} (hX : zXs Γ) (hZ : QC b n N Γ w t A G)  : zMet l Γ yX3_release cX3_release 2 none 1 [zr 4 w, zi k] G (zpv (fun G' => zsm [410, 206, 2014, 2015] G G' ∧ QC b n N Γ w t (sRel k A) G')) := by
  have hI := QC_t hZ
  refine zMet_of RX3 hX (by decide) rfl (Nat.le_of_ble_eq_true rfl) ?_
  intro p e s m args below meth c C hr hlk
  show Z p l e (zrm 1) s m args below meth c Γ 2 0 0 (MQ below (zQc Γ (zpv (fun G' => zsm [410, 206, 2014, 2015] G G' ∧ QC b n N Γ w t (sRel k A) G'))) args s 0 0 (zA Γ)) 0 [some (zr 4 w), some (zi k)] [] G
  refine zs_loc 1 rfl (fun ha1 hb1 => ?_)
  have L0 : ∀ (nn : Nat) (G1 : zH) (A1 : aS), (zsm [410, 206, 2014, 2015] G G1) → (QC b n N Γ w t (A1) G1) → (sRel k A1 = sRel k A) → (A1 22 0).toNat < nn → Z p l e (zrm 1) s m args below meth c Γ 2 0 0 (MQ below (zQc Γ (zpv (fun G' => zsm [410, 206, 2014, 2015] G G' ∧ QC b n N Γ w t (sRel k A) G'))) args s 0 0 (zA Γ)) 0 [some (zr 4 w), some (zi k)] [] G1 := by
    intro nn
    induction nn with
    | zero => intro G1 A1 h0_0 h0_1 h0_2 hm; exact absurd hm (Nat.not_lt_zero _)
    | succ nn ih0 =>
      intro G1 A1 h0_0 h0_1 h0_2 hm0
      refine zs_aload_n (pc := 0) C dX3_release_0 rfl ?_
      refine zs_geti (r := 410) (pc := 1) C dX3_release_1 w_X3_165 f_4_10 rfl (r_410 0) (fun v1 e1 l1 u1 => ?_)
      try simp only [QC_410 h0_1] at e1
      try subst v1
      refine zs_if_le (tgt := 59) (pc := 4) C dX3_release_4 (by decide) (fun h4 => ?_) (fun h4 => ?_)
      · skip
        exact zs_vret (pc := 59) C hr hlk dX3_release_59 ⟨by repeat (first | exact zsm_rf | assumption | refine zsm_C (by decide) ?_ | refine zsm_I (by decide) ?_ | refine zsm_J ?_ | refine zsm_c (by assumption) (by decide) ?_), by have e9 : sRel k A = A1 := (by rw [← h0_2]; exact rel_e (by omega)); rw [e9]; exact h0_1⟩
      · skip
        refine zs_binds (pc := 7) C dX3_release_7 q_X3_220 ?_
        refine zs_aload_n (pc := 10) C dX3_release_10 rfl ?_
        refine zs_getf (pc := 11) C dX3_release_11 w_X3_27 f_4_9 (by decide) ?_
        refine zs_aload_n (pc := 14) C dX3_release_14 rfl ?_
        refine zs_geti (r := 410) (pc := 15) C dX3_release_15 w_X3_165 f_4_10 rfl (r_410 0) (fun v15 e15 l15 u15 => ?_)
        try simp only [QC_410 h0_1] at e15
        try subst v15
        refine zs_iconst (pc := 18) C dX3_release_18 (by decide) ?_
        first | refine zs_isub (pc := 19) C dX3_release_19 (by omega) ?_ | refine zs_isubF (pc := 19) C dX3_release_19 (fun z19 hz191 hz192 => ?_)
        refine zs_iald (r := 2025) (pc := 20) C dX3_release_20 a_25 (by decide) (by omega) rfl (r_2025 _) (fun v20 e20 l20 u20 => ?_)
        try simp only [QC_2025 h0_1] at e20
        try subst v20
        refine zs_xald (pc := 21) C 1 dX3_release_21 (by decide) rfl (by have := hX.1; have := hX.2.1; omega) (fun v21 e21 l21 u21 => ?_)
        have hb21 := hX.2.2.2 ((A1 26 (A1 22 0 - 1).toNat)).toNat (by omega)
        have hc21 : v21 = bnd ((A1 26 (A1 22 0 - 1).toNat)) := e21.trans hb21
        subst hc21
        refine zs_iload_n (pc := 22) C dX3_release_22 rfl ?_
        refine zs_icmp_lt (tgt := 59) (pc := 23) C dX3_release_23 (by decide) (fun h23 => ?_) (fun h23 => ?_)
        · skip
          exact zs_vret (pc := 59) C hr hlk dX3_release_59 ⟨by repeat (first | exact zsm_rf | assumption | refine zsm_C (by decide) ?_ | refine zsm_I (by decide) ?_ | refine zsm_J ?_ | refine zsm_c (by assumption) (by decide) ?_), by have e9 : sRel k A = A1 := (by rw [← h0_2]; exact rel_e (by omega)); rw [e9]; exact h0_1⟩
        · skip
          refine zs_aload_n (pc := 26) C dX3_release_26 rfl ?_
          refine zs_dupa (pc := 27) C dX3_release_27 ?_
          refine zs_geti (r := 410) (pc := 28) C dX3_release_28 w_X3_165 f_4_10 rfl (r_410 0) (fun v28 e28 l28 u28 => ?_)
          try simp only [QC_410 h0_1] at e28
          try subst v28
          refine zs_iconst (pc := 31) C dX3_release_31 (by decide) ?_
          first | refine zs_isub (pc := 32) C dX3_release_32 (by omega) ?_ | refine zs_isubF (pc := 32) C dX3_release_32 (fun z32 hz321 hz322 => ?_)
          refine zs_puti (r := 410) (pc := 33) C dX3_release_33 w_X3_165 f_4_10 rfl (r_410 0) (by omega) ?_
          refine zs_aload_n (pc := 36) C dX3_release_36 rfl ?_
          refine zs_getd (r := 401) (pc := 37) C dX3_release_37 w_X3_21 f_4_1 (by decide) rfl (fun v37 e37 t37 => ?_)
          try simp only [h0_0.2, zuI_1, zuI_2, zuJ_1, zuJ_2, zuJ_3, zuP_1, zuP_2, zuP_3, zuC_1, zuC_2, reduceIte, Nat.reduceEqDiff, false_and, and_false, true_and, and_true, and_self, or_true, true_or, or_false, false_or] at e37
          rw [hI] at e37
          subst v37
          refine zs_getf (pc := 40) C dX3_release_40 w_X3_148 f_6_0 (by decide) ?_
          refine zs_aload_n (pc := 43) C dX3_release_43 rfl ?_
          refine zs_getf (pc := 44) C dX3_release_44 w_X3_27 f_4_9 (by decide) ?_
          refine zs_aload_n (pc := 47) C dX3_release_47 rfl ?_
          refine zs_geti (r := 410) (pc := 48) C dX3_release_48 w_X3_165 f_4_10 rfl (r_410 0) (fun v48 e48 l48 u48 => ?_)
          try simp only [zuI_1, zuI_2, zuJ_1, zuJ_2, zuJ_3, zuP_1, zuP_2, zuP_3, zuC_1, zuC_2, reduceIte, Nat.reduceEqDiff, false_and, and_false, true_and, and_true, and_self, or_true, true_or, or_false, false_or] at e48
          try simp only [QC_410 h0_1] at e48
          try subst v48
          refine zs_iald (r := 2025) (pc := 51) C dX3_release_51 a_25 (by decide) (by omega) rfl (r_2025 _) (fun v51 e51 l51 u51 => ?_)
          try simp only [zuI_1, zuI_2, zuJ_1, zuJ_2, zuJ_3, zuP_1, zuP_2, zuP_3, zuC_1, zuC_2, reduceIte, Nat.reduceEqDiff, false_and, and_false, true_and, and_true, and_self, or_true, true_or, or_false, false_or] at e51
          try simp only [QC_2025 h0_1] at e51
          try subst v51
          refine zs_iconst (pc := 52) C dX3_release_52 (by decide) ?_
          refine zVv2 (pc := 53) C dX3_release_53 v_X3_206 (c_X1_writeF hX (QC_gOp (k := (A1 26 (A1 22 0 - 1).toNat)) (QCw_410 h0_1))) (by decide) (by decide) ⟨Nat.zero_le _, Nat.zero_le _⟩ (Nat.le_of_ble_eq_true rfl) (fun G53 hp53 => ?_)
          obtain ⟨hz53, hq53⟩ := hp53
          try simp only [zuI_1, zuI_2, zuJ_1, zuJ_2, zuJ_3, zuP_1, zuP_2, zuP_3, zuC_1, zuC_2, reduceIte, Nat.reduceEqDiff, false_and, and_false, true_and, and_true, and_self, or_true, true_or, or_false, false_or] at hq53
          have hZ53 := hq53
          refine zs_goto (tgt := 0) (pc := 56) C dX3_release_56 (by decide) ?_
          exact zs_wk (ih0 _ _ (by repeat (first | exact zsm_rf | assumption | refine zsm_C (by decide) ?_ | refine zsm_I (by decide) ?_ | refine zsm_J ?_ | refine zsm_c (by assumption) (by decide) ?_)) hZ53 (by rw [← h0_2]; exact (rel_u (by omega) (by omega)).symm) (by rw [sWrite_22 (by decide) (by decide) (by decide), gOp_f (by decide), up_eq]; omega)) (zwk_s rfl (zwk_s rfl zwk_0))
  exact zs_wk (L0 _ _ _ zsm_rf hZ rfl (Nat.lt_succ_self _)) (zwk_s rfl (zwk_s rfl zwk_0))

set_option maxHeartbeats 4000000 in
set_option maxRecDepth 100000 in
theorem c_X3_readJointF {l : Launch} {Γ : zΓ} {G : zH} {w t : Nat} {b : Nat → Int} {n : Int} {N : Nat} {A : aS} {k : Int} (hX : zXs Γ) (hZ : QC b n N Γ w t A G) (hk : 2 ≤ k ∧ k ≤ 14) : zMet l Γ yX3_readJoint cX3_readJoint 4 none 2 [zr 4 w, zi k] G (zpv (fun G' => zsm [402, 403, 404, 405, 406, 407, 408, 409, 410, 411, 412, 413, 2025, 206, 207, 2014, 2015, 2016, 2017, 2036, 2037, 2038, 2039, 2040, 2041, 2042, 2043, 609, 610, 611, 612] G G' ∧ QC b n N Γ w t (sJoint b n k A) G')) := by
  have hI := QC_t hZ
  refine zMet_of RX3 hX (by decide) rfl (Nat.le_of_ble_eq_true rfl) ?_
  intro p e s m args below meth c C hr hlk
  show Z p l e (zrm 2) s m args below meth c Γ 4 0 0 (MQ below (zQc Γ (zpv (fun G' => zsm [402, 403, 404, 405, 406, 407, 408, 409, 410, 411, 412, 413, 2025, 206, 207, 2014, 2015, 2016, 2017, 2036, 2037, 2038, 2039, 2040, 2041, 2042, 2043, 609, 610, 611, 612] G G' ∧ QC b n N Γ w t (sJoint b n k A) G'))) args s 0 0 (zA Γ)) 0 [some (zr 4 w), some (zi k), none, none] [] G
  refine zs_loc 1 rfl (fun ha1 hb1 => ?_)
  refine zs_binds (pc := 0) C dX3_readJoint_0 q_X3_220 ?_
  refine zs_iload_n (pc := 3) C dX3_readJoint_3 rfl ?_
  refine zs_xald (pc := 4) C 1 dX3_readJoint_4 (by decide) rfl (by have := hX.1; have := hX.2.1; omega) (fun v4 e4 l4 u4 => ?_)
  have hb4 := hX.2.2.2 (k).toNat (by omega)
  have hc4 : v4 = bnd (k) := e4.trans hb4
  subst hc4
  refine zs_istore_n (pc := 5) C dX3_readJoint_5 (by decide) ?_
  dsimp only [zset, zclr, znone]
  refine zs_iload_n (pc := 6) C dX3_readJoint_6 rfl ?_
  refine zs_iconst (pc := 7) C dX3_readJoint_7 (by decide) ?_
  refine zs_icmp_ne (tgt := 15) (pc := 8) C dX3_readJoint_8 (by decide) (fun h8 => ?_) (fun h8 => ?_)
  · skip
    refine zs_iconst (pc := 15) C dX3_readJoint_15 (by decide) ?_
    refine zs_istore_n (pc := 16) C dX3_readJoint_16 (by decide) ?_
    dsimp only [zset, zclr, znone]
    refine zs_aload_n (pc := 17) C dX3_readJoint_17 rfl ?_
    refine zs_iload_n (pc := 18) C dX3_readJoint_18 rfl ?_
    refine zs_if_eq (tgt := 26) (pc := 19) C dX3_readJoint_19 (by decide) (fun h19 => ?_) (fun h19 => ?_)
    · skip
      refine zs_iload_n (pc := 26) C dX3_readJoint_26 rfl ?_
      refine zVv1 (pc := 27) C dX3_readJoint_27 v_X3_188 (c_X3_releaseF hX (by repeat (first | assumption | apply QCw_407 | apply QCw_408 | apply QCw_406 | apply QCw_2037 | apply QCw_2036 | apply QCw_2038 | apply QCw_2039 | apply QCw_2040 | apply QCw_2041 | apply QCw_2042 | apply QCw_2043 | apply QCw_609 | apply QCw_610 | apply QCw_611 | apply QCw_612 | apply QCw_2016 | apply QCw_2017 | apply QCw_2014 | apply QCw_2015 | apply QCw_206 | apply QCw_207 | apply QCw_410 | apply QCw_411 | apply QCw_412 | apply QCw_413 | apply QCw_2025 | refine QC_g (by decide) ?_ | refine QC_sm (by assumption) (by decide) (by decide) ?_))) (by decide) (by decide) ⟨Nat.zero_le _, Nat.zero_le _⟩ (Nat.le_of_ble_eq_true rfl) (fun G27 hp27 => ?_)
      obtain ⟨hz27, hq27⟩ := hp27
      have hZ27 := hq27
      first | (have hJ : sRel 5 A = sJR k A := (by unfold sJR; rw [if_pos (by omega)]); rw [hJ] at hZ27) | (have hJ : sRel (bnd k) A = sJR k A := (by unfold sJR; rw [if_neg (by omega)]); rw [hJ] at hZ27) | skip
      refine zs_iload_n (pc := 30) C dX3_readJoint_30 rfl ?_
      refine zs_if_eq (tgt := 68) (pc := 31) C dX3_readJoint_31 (by decide) (fun h31 => ?_) (fun h31 => ?_)
      · skip
        refine zs_aload_n (pc := 68) C dX3_readJoint_68 rfl ?_
        refine zVi0 (pc := 69) C dX3_readJoint_69 v_X3_197 (c_X3_countKnotF hX (by repeat (first | assumption | apply QCw_407 | apply QCw_408 | apply QCw_406 | apply QCw_2037 | apply QCw_2036 | apply QCw_2038 | apply QCw_2039 | apply QCw_2040 | apply QCw_2041 | apply QCw_2042 | apply QCw_2043 | apply QCw_609 | apply QCw_610 | apply QCw_611 | apply QCw_612 | apply QCw_2016 | apply QCw_2017 | apply QCw_2014 | apply QCw_2015 | apply QCw_206 | apply QCw_207 | apply QCw_410 | apply QCw_411 | apply QCw_412 | apply QCw_413 | apply QCw_2025 | refine QC_g (by decide) ?_ | refine QC_sm (by assumption) (by decide) (by decide) ?_))) (by decide) (by decide) ⟨Nat.zero_le _, Nat.zero_le _⟩ (Nat.le_of_ble_eq_true rfl) (fun x69 G69 l69 u69 hp69 => ?_)
        obtain ⟨hz69, hq69⟩ := hp69
        have hZ69 := hq69.1
        have hX69 := hq69.2
        refine zs_if_eq (tgt := 99) (pc := 72) C dX3_readJoint_72 (by decide) (fun h72 => ?_) (fun h72 => ?_)
        · skip
          exact zs_vret (pc := 99) C hr hlk dX3_readJoint_99 ⟨by repeat (first | exact zsm_rf | assumption | refine zsm_C (by decide) ?_ | refine zsm_I (by decide) ?_ | refine zsm_J ?_ | refine zsm_c (by assumption) (by decide) ?_), by unfold sJoint sJB; (repeat' split) <;> first | assumption | (exfalso; omega) | exact (by repeat (first | assumption | apply QCw_407 | apply QCw_408 | apply QCw_406 | apply QCw_2037 | apply QCw_2036 | apply QCw_2038 | apply QCw_2039 | apply QCw_2040 | apply QCw_2041 | apply QCw_2042 | apply QCw_2043 | apply QCw_609 | apply QCw_610 | apply QCw_611 | apply QCw_612 | apply QCw_2016 | apply QCw_2017 | apply QCw_2014 | apply QCw_2015 | apply QCw_206 | apply QCw_207 | apply QCw_410 | apply QCw_411 | apply QCw_412 | apply QCw_413 | apply QCw_2025 | refine QC_g (by decide) ?_ | refine QC_sm (by assumption) (by decide) (by decide) ?_))⟩
        · skip
          refine zs_aload_n (pc := 75) C dX3_readJoint_75 rfl ?_
          refine zs_iconst (pc := 76) C dX3_readJoint_76 (by decide) ?_
          refine zs_putz (r := 412) (pc := 77) C dX3_readJoint_77 w_X3_171 f_4_12 rfl (r_412 0) (by omega) (by omega) ?_
          refine zs_aload_n (pc := 80) C dX3_readJoint_80 rfl ?_
          refine zs_iload_n (pc := 81) C dX3_readJoint_81 rfl ?_
          refine zs_iconst (pc := 82) C dX3_readJoint_82 (by decide) ?_
          refine zs_icmp_ge (tgt := 90) (pc := 83) C dX3_readJoint_83 (by decide) (fun h83 => ?_) (fun h83 => ?_)
          · skip
            refine zs_iconst (pc := 90) C dX3_readJoint_90 (by decide) ?_
            refine zs_putz (r := 413) (pc := 91) C dX3_readJoint_91 w_X3_175 f_4_13 rfl (r_413 0) (by omega) (by omega) ?_
            refine zs_aload_n (pc := 94) C dX3_readJoint_94 rfl ?_
            refine zs_iload_n (pc := 95) C dX3_readJoint_95 rfl ?_
            refine zVv1 (pc := 96) C dX3_readJoint_96 v_X3_200 (c_X3_pushF hX (by repeat (first | assumption | apply QCw_407 | apply QCw_408 | apply QCw_406 | apply QCw_2037 | apply QCw_2036 | apply QCw_2038 | apply QCw_2039 | apply QCw_2040 | apply QCw_2041 | apply QCw_2042 | apply QCw_2043 | apply QCw_609 | apply QCw_610 | apply QCw_611 | apply QCw_612 | apply QCw_2016 | apply QCw_2017 | apply QCw_2014 | apply QCw_2015 | apply QCw_206 | apply QCw_207 | apply QCw_410 | apply QCw_411 | apply QCw_412 | apply QCw_413 | apply QCw_2025 | refine QC_g (by decide) ?_ | refine QC_sm (by assumption) (by decide) (by decide) ?_)) (by first | omega | (simp only [zuI_1, zuI_2, zuJ_1, zuJ_2, zuJ_3, zuP_1, zuP_2, zuP_3, zuC_1, zuC_2, reduceIte, Nat.reduceEqDiff, false_and, and_false, true_and, and_true, and_self, or_true, true_or, or_false, false_or]; omega))) (by decide) (by decide) ⟨Nat.zero_le _, Nat.zero_le _⟩ (Nat.le_of_ble_eq_true rfl) (fun G96 hp96 => ?_)
            obtain ⟨hz96, hq96⟩ := hp96
            try simp only [zuI_1, zuI_2, zuJ_1, zuJ_2, zuJ_3, zuP_1, zuP_2, zuP_3, zuC_1, zuC_2, reduceIte, Nat.reduceEqDiff, false_and, and_false, true_and, and_true, and_self, or_true, true_or, or_false, false_or] at hq96
            have hZ96 := hq96
            exact zs_vret (pc := 99) C hr hlk dX3_readJoint_99 ⟨by repeat (first | exact zsm_rf | assumption | refine zsm_C (by decide) ?_ | refine zsm_I (by decide) ?_ | refine zsm_J ?_ | refine zsm_c (by assumption) (by decide) ?_), by unfold sJoint sJB; (repeat' split) <;> first | assumption | (exfalso; omega) | exact (by repeat (first | assumption | apply QCw_407 | apply QCw_408 | apply QCw_406 | apply QCw_2037 | apply QCw_2036 | apply QCw_2038 | apply QCw_2039 | apply QCw_2040 | apply QCw_2041 | apply QCw_2042 | apply QCw_2043 | apply QCw_609 | apply QCw_610 | apply QCw_611 | apply QCw_612 | apply QCw_2016 | apply QCw_2017 | apply QCw_2014 | apply QCw_2015 | apply QCw_206 | apply QCw_207 | apply QCw_410 | apply QCw_411 | apply QCw_412 | apply QCw_413 | apply QCw_2025 | refine QC_g (by decide) ?_ | refine QC_sm (by assumption) (by decide) (by decide) ?_))⟩
          · skip
            refine zs_iconst (pc := 86) C dX3_readJoint_86 (by decide) ?_
            refine zs_goto (tgt := 91) (pc := 87) C dX3_readJoint_87 (by decide) ?_
            refine zs_putz (r := 413) (pc := 91) C dX3_readJoint_91 w_X3_175 f_4_13 rfl (r_413 0) (by omega) (by omega) ?_
            refine zs_aload_n (pc := 94) C dX3_readJoint_94 rfl ?_
            refine zs_iload_n (pc := 95) C dX3_readJoint_95 rfl ?_
            refine zVv1 (pc := 96) C dX3_readJoint_96 v_X3_200 (c_X3_pushF hX (by repeat (first | assumption | apply QCw_407 | apply QCw_408 | apply QCw_406 | apply QCw_2037 | apply QCw_2036 | apply QCw_2038 | apply QCw_2039 | apply QCw_2040 | apply QCw_2041 | apply QCw_2042 | apply QCw_2043 | apply QCw_609 | apply QCw_610 | apply QCw_611 | apply QCw_612 | apply QCw_2016 | apply QCw_2017 | apply QCw_2014 | apply QCw_2015 | apply QCw_206 | apply QCw_207 | apply QCw_410 | apply QCw_411 | apply QCw_412 | apply QCw_413 | apply QCw_2025 | refine QC_g (by decide) ?_ | refine QC_sm (by assumption) (by decide) (by decide) ?_)) (by first | omega | (simp only [zuI_1, zuI_2, zuJ_1, zuJ_2, zuJ_3, zuP_1, zuP_2, zuP_3, zuC_1, zuC_2, reduceIte, Nat.reduceEqDiff, false_and, and_false, true_and, and_true, and_self, or_true, true_or, or_false, false_or]; omega))) (by decide) (by decide) ⟨Nat.zero_le _, Nat.zero_le _⟩ (Nat.le_of_ble_eq_true rfl) (fun G96 hp96 => ?_)
            obtain ⟨hz96, hq96⟩ := hp96
            try simp only [zuI_1, zuI_2, zuJ_1, zuJ_2, zuJ_3, zuP_1, zuP_2, zuP_3, zuC_1, zuC_2, reduceIte, Nat.reduceEqDiff, false_and, and_false, true_and, and_true, and_self, or_true, true_or, or_false, false_or] at hq96
            have hZ96 := hq96
            exact zs_vret (pc := 99) C hr hlk dX3_readJoint_99 ⟨by repeat (first | exact zsm_rf | assumption | refine zsm_C (by decide) ?_ | refine zsm_I (by decide) ?_ | refine zsm_J ?_ | refine zsm_c (by assumption) (by decide) ?_), by unfold sJoint sJB; (repeat' split) <;> first | assumption | (exfalso; omega) | exact (by repeat (first | assumption | apply QCw_407 | apply QCw_408 | apply QCw_406 | apply QCw_2037 | apply QCw_2036 | apply QCw_2038 | apply QCw_2039 | apply QCw_2040 | apply QCw_2041 | apply QCw_2042 | apply QCw_2043 | apply QCw_609 | apply QCw_610 | apply QCw_611 | apply QCw_612 | apply QCw_2016 | apply QCw_2017 | apply QCw_2014 | apply QCw_2015 | apply QCw_206 | apply QCw_207 | apply QCw_410 | apply QCw_411 | apply QCw_412 | apply QCw_413 | apply QCw_2025 | refine QC_g (by decide) ?_ | refine QC_sm (by assumption) (by decide) (by decide) ?_))⟩
      · skip
        refine zs_aload_n (pc := 34) C dX3_readJoint_34 rfl ?_
        refine zs_geti (r := 410) (pc := 35) C dX3_readJoint_35 w_X3_165 f_4_10 rfl (r_410 0) (fun v35 e35 l35 u35 => ?_)
        try simp only [QC_410 hZ27, QC_410 hZ] at e35
        try subst v35
        refine zs_if_le (tgt := 68) (pc := 38) C dX3_readJoint_38 (by decide) (fun h38 => ?_) (fun h38 => ?_)
        · skip
          refine zs_aload_n (pc := 68) C dX3_readJoint_68 rfl ?_
          refine zVi0 (pc := 69) C dX3_readJoint_69 v_X3_197 (c_X3_countKnotF hX (by repeat (first | assumption | apply QCw_407 | apply QCw_408 | apply QCw_406 | apply QCw_2037 | apply QCw_2036 | apply QCw_2038 | apply QCw_2039 | apply QCw_2040 | apply QCw_2041 | apply QCw_2042 | apply QCw_2043 | apply QCw_609 | apply QCw_610 | apply QCw_611 | apply QCw_612 | apply QCw_2016 | apply QCw_2017 | apply QCw_2014 | apply QCw_2015 | apply QCw_206 | apply QCw_207 | apply QCw_410 | apply QCw_411 | apply QCw_412 | apply QCw_413 | apply QCw_2025 | refine QC_g (by decide) ?_ | refine QC_sm (by assumption) (by decide) (by decide) ?_))) (by decide) (by decide) ⟨Nat.zero_le _, Nat.zero_le _⟩ (Nat.le_of_ble_eq_true rfl) (fun x69 G69 l69 u69 hp69 => ?_)
          obtain ⟨hz69, hq69⟩ := hp69
          have hZ69 := hq69.1
          have hX69 := hq69.2
          refine zs_if_eq (tgt := 99) (pc := 72) C dX3_readJoint_72 (by decide) (fun h72 => ?_) (fun h72 => ?_)
          · skip
            exact zs_vret (pc := 99) C hr hlk dX3_readJoint_99 ⟨by repeat (first | exact zsm_rf | assumption | refine zsm_C (by decide) ?_ | refine zsm_I (by decide) ?_ | refine zsm_J ?_ | refine zsm_c (by assumption) (by decide) ?_), by unfold sJoint sJB; (repeat' split) <;> first | assumption | (exfalso; omega) | exact (by repeat (first | assumption | apply QCw_407 | apply QCw_408 | apply QCw_406 | apply QCw_2037 | apply QCw_2036 | apply QCw_2038 | apply QCw_2039 | apply QCw_2040 | apply QCw_2041 | apply QCw_2042 | apply QCw_2043 | apply QCw_609 | apply QCw_610 | apply QCw_611 | apply QCw_612 | apply QCw_2016 | apply QCw_2017 | apply QCw_2014 | apply QCw_2015 | apply QCw_206 | apply QCw_207 | apply QCw_410 | apply QCw_411 | apply QCw_412 | apply QCw_413 | apply QCw_2025 | refine QC_g (by decide) ?_ | refine QC_sm (by assumption) (by decide) (by decide) ?_))⟩
          · skip
            refine zs_aload_n (pc := 75) C dX3_readJoint_75 rfl ?_
            refine zs_iconst (pc := 76) C dX3_readJoint_76 (by decide) ?_
            refine zs_putz (r := 412) (pc := 77) C dX3_readJoint_77 w_X3_171 f_4_12 rfl (r_412 0) (by omega) (by omega) ?_
            refine zs_aload_n (pc := 80) C dX3_readJoint_80 rfl ?_
            refine zs_iload_n (pc := 81) C dX3_readJoint_81 rfl ?_
            refine zs_iconst (pc := 82) C dX3_readJoint_82 (by decide) ?_
            refine zs_icmp_ge (tgt := 90) (pc := 83) C dX3_readJoint_83 (by decide) (fun h83 => ?_) (fun h83 => ?_)
            · skip
              refine zs_iconst (pc := 90) C dX3_readJoint_90 (by decide) ?_
              refine zs_putz (r := 413) (pc := 91) C dX3_readJoint_91 w_X3_175 f_4_13 rfl (r_413 0) (by omega) (by omega) ?_
              refine zs_aload_n (pc := 94) C dX3_readJoint_94 rfl ?_
              refine zs_iload_n (pc := 95) C dX3_readJoint_95 rfl ?_
              refine zVv1 (pc := 96) C dX3_readJoint_96 v_X3_200 (c_X3_pushF hX (by repeat (first | assumption | apply QCw_407 | apply QCw_408 | apply QCw_406 | apply QCw_2037 | apply QCw_2036 | apply QCw_2038 | apply QCw_2039 | apply QCw_2040 | apply QCw_2041 | apply QCw_2042 | apply QCw_2043 | apply QCw_609 | apply QCw_610 | apply QCw_611 | apply QCw_612 | apply QCw_2016 | apply QCw_2017 | apply QCw_2014 | apply QCw_2015 | apply QCw_206 | apply QCw_207 | apply QCw_410 | apply QCw_411 | apply QCw_412 | apply QCw_413 | apply QCw_2025 | refine QC_g (by decide) ?_ | refine QC_sm (by assumption) (by decide) (by decide) ?_)) (by first | omega | (simp only [zuI_1, zuI_2, zuJ_1, zuJ_2, zuJ_3, zuP_1, zuP_2, zuP_3, zuC_1, zuC_2, reduceIte, Nat.reduceEqDiff, false_and, and_false, true_and, and_true, and_self, or_true, true_or, or_false, false_or]; omega))) (by decide) (by decide) ⟨Nat.zero_le _, Nat.zero_le _⟩ (Nat.le_of_ble_eq_true rfl) (fun G96 hp96 => ?_)
              obtain ⟨hz96, hq96⟩ := hp96
              try simp only [zuI_1, zuI_2, zuJ_1, zuJ_2, zuJ_3, zuP_1, zuP_2, zuP_3, zuC_1, zuC_2, reduceIte, Nat.reduceEqDiff, false_and, and_false, true_and, and_true, and_self, or_true, true_or, or_false, false_or] at hq96
              have hZ96 := hq96
              exact zs_vret (pc := 99) C hr hlk dX3_readJoint_99 ⟨by repeat (first | exact zsm_rf | assumption | refine zsm_C (by decide) ?_ | refine zsm_I (by decide) ?_ | refine zsm_J ?_ | refine zsm_c (by assumption) (by decide) ?_), by unfold sJoint sJB; (repeat' split) <;> first | assumption | (exfalso; omega) | exact (by repeat (first | assumption | apply QCw_407 | apply QCw_408 | apply QCw_406 | apply QCw_2037 | apply QCw_2036 | apply QCw_2038 | apply QCw_2039 | apply QCw_2040 | apply QCw_2041 | apply QCw_2042 | apply QCw_2043 | apply QCw_609 | apply QCw_610 | apply QCw_611 | apply QCw_612 | apply QCw_2016 | apply QCw_2017 | apply QCw_2014 | apply QCw_2015 | apply QCw_206 | apply QCw_207 | apply QCw_410 | apply QCw_411 | apply QCw_412 | apply QCw_413 | apply QCw_2025 | refine QC_g (by decide) ?_ | refine QC_sm (by assumption) (by decide) (by decide) ?_))⟩
            · skip
              refine zs_iconst (pc := 86) C dX3_readJoint_86 (by decide) ?_
              refine zs_goto (tgt := 91) (pc := 87) C dX3_readJoint_87 (by decide) ?_
              refine zs_putz (r := 413) (pc := 91) C dX3_readJoint_91 w_X3_175 f_4_13 rfl (r_413 0) (by omega) (by omega) ?_
              refine zs_aload_n (pc := 94) C dX3_readJoint_94 rfl ?_
              refine zs_iload_n (pc := 95) C dX3_readJoint_95 rfl ?_
              refine zVv1 (pc := 96) C dX3_readJoint_96 v_X3_200 (c_X3_pushF hX (by repeat (first | assumption | apply QCw_407 | apply QCw_408 | apply QCw_406 | apply QCw_2037 | apply QCw_2036 | apply QCw_2038 | apply QCw_2039 | apply QCw_2040 | apply QCw_2041 | apply QCw_2042 | apply QCw_2043 | apply QCw_609 | apply QCw_610 | apply QCw_611 | apply QCw_612 | apply QCw_2016 | apply QCw_2017 | apply QCw_2014 | apply QCw_2015 | apply QCw_206 | apply QCw_207 | apply QCw_410 | apply QCw_411 | apply QCw_412 | apply QCw_413 | apply QCw_2025 | refine QC_g (by decide) ?_ | refine QC_sm (by assumption) (by decide) (by decide) ?_)) (by first | omega | (simp only [zuI_1, zuI_2, zuJ_1, zuJ_2, zuJ_3, zuP_1, zuP_2, zuP_3, zuC_1, zuC_2, reduceIte, Nat.reduceEqDiff, false_and, and_false, true_and, and_true, and_self, or_true, true_or, or_false, false_or]; omega))) (by decide) (by decide) ⟨Nat.zero_le _, Nat.zero_le _⟩ (Nat.le_of_ble_eq_true rfl) (fun G96 hp96 => ?_)
              obtain ⟨hz96, hq96⟩ := hp96
              try simp only [zuI_1, zuI_2, zuJ_1, zuJ_2, zuJ_3, zuP_1, zuP_2, zuP_3, zuC_1, zuC_2, reduceIte, Nat.reduceEqDiff, false_and, and_false, true_and, and_true, and_self, or_true, true_or, or_false, false_or] at hq96
              have hZ96 := hq96
              exact zs_vret (pc := 99) C hr hlk dX3_readJoint_99 ⟨by repeat (first | exact zsm_rf | assumption | refine zsm_C (by decide) ?_ | refine zsm_I (by decide) ?_ | refine zsm_J ?_ | refine zsm_c (by assumption) (by decide) ?_), by unfold sJoint sJB; (repeat' split) <;> first | assumption | (exfalso; omega) | exact (by repeat (first | assumption | apply QCw_407 | apply QCw_408 | apply QCw_406 | apply QCw_2037 | apply QCw_2036 | apply QCw_2038 | apply QCw_2039 | apply QCw_2040 | apply QCw_2041 | apply QCw_2042 | apply QCw_2043 | apply QCw_609 | apply QCw_610 | apply QCw_611 | apply QCw_612 | apply QCw_2016 | apply QCw_2017 | apply QCw_2014 | apply QCw_2015 | apply QCw_206 | apply QCw_207 | apply QCw_410 | apply QCw_411 | apply QCw_412 | apply QCw_413 | apply QCw_2025 | refine QC_g (by decide) ?_ | refine QC_sm (by assumption) (by decide) (by decide) ?_))⟩
        · skip
          refine zs_binds (pc := 41) C dX3_readJoint_41 q_X3_220 ?_
          refine zs_aload_n (pc := 44) C dX3_readJoint_44 rfl ?_
          refine zs_getf (pc := 45) C dX3_readJoint_45 w_X3_27 f_4_9 (by decide) ?_
          refine zs_aload_n (pc := 48) C dX3_readJoint_48 rfl ?_
          refine zs_geti (r := 410) (pc := 49) C dX3_readJoint_49 w_X3_165 f_4_10 rfl (r_410 0) (fun v49 e49 l49 u49 => ?_)
          try simp only [QC_410 hZ27, QC_410 hZ] at e49
          try subst v49
          refine zs_iconst (pc := 52) C dX3_readJoint_52 (by decide) ?_
          first | refine zs_isub (pc := 53) C dX3_readJoint_53 (by omega) ?_ | refine zs_isubF (pc := 53) C dX3_readJoint_53 (fun z53 hz531 hz532 => ?_)
          refine zs_iald (r := 2025) (pc := 54) C dX3_readJoint_54 a_25 (by decide) (by omega) rfl (r_2025 _) (fun v54 e54 l54 u54 => ?_)
          try simp only [QC_2025 hZ27, QC_2025 hZ] at e54
          try subst v54
          refine zs_xald (pc := 55) C 1 dX3_readJoint_55 (by decide) rfl (by have := hX.1; have := hX.2.1; omega) (fun v55 e55 l55 u55 => ?_)
          first | (have hb55 := hX.2.2.2 ((sJR k A) 26 ((sJR k A) 22 0 - 1).toNat).toNat (by omega); have hc55 : v55 = bnd ((sJR k A) 26 ((sJR k A) 22 0 - 1).toNat) := e55.trans hb55; subst hc55) | skip
          refine zs_iconst (pc := 56) C dX3_readJoint_56 (by decide) ?_
          refine zs_icmp_ne (tgt := 68) (pc := 57) C dX3_readJoint_57 (by decide) (fun h57 => ?_) (fun h57 => ?_)
          · skip
            refine zs_aload_n (pc := 68) C dX3_readJoint_68 rfl ?_
            refine zVi0 (pc := 69) C dX3_readJoint_69 v_X3_197 (c_X3_countKnotF hX (by repeat (first | assumption | apply QCw_407 | apply QCw_408 | apply QCw_406 | apply QCw_2037 | apply QCw_2036 | apply QCw_2038 | apply QCw_2039 | apply QCw_2040 | apply QCw_2041 | apply QCw_2042 | apply QCw_2043 | apply QCw_609 | apply QCw_610 | apply QCw_611 | apply QCw_612 | apply QCw_2016 | apply QCw_2017 | apply QCw_2014 | apply QCw_2015 | apply QCw_206 | apply QCw_207 | apply QCw_410 | apply QCw_411 | apply QCw_412 | apply QCw_413 | apply QCw_2025 | refine QC_g (by decide) ?_ | refine QC_sm (by assumption) (by decide) (by decide) ?_))) (by decide) (by decide) ⟨Nat.zero_le _, Nat.zero_le _⟩ (Nat.le_of_ble_eq_true rfl) (fun x69 G69 l69 u69 hp69 => ?_)
            obtain ⟨hz69, hq69⟩ := hp69
            have hZ69 := hq69.1
            have hX69 := hq69.2
            refine zs_if_eq (tgt := 99) (pc := 72) C dX3_readJoint_72 (by decide) (fun h72 => ?_) (fun h72 => ?_)
            · skip
              exact zs_vret (pc := 99) C hr hlk dX3_readJoint_99 ⟨by repeat (first | exact zsm_rf | assumption | refine zsm_C (by decide) ?_ | refine zsm_I (by decide) ?_ | refine zsm_J ?_ | refine zsm_c (by assumption) (by decide) ?_), by unfold sJoint sJB; (repeat' split) <;> first | assumption | (exfalso; omega) | exact (by repeat (first | assumption | apply QCw_407 | apply QCw_408 | apply QCw_406 | apply QCw_2037 | apply QCw_2036 | apply QCw_2038 | apply QCw_2039 | apply QCw_2040 | apply QCw_2041 | apply QCw_2042 | apply QCw_2043 | apply QCw_609 | apply QCw_610 | apply QCw_611 | apply QCw_612 | apply QCw_2016 | apply QCw_2017 | apply QCw_2014 | apply QCw_2015 | apply QCw_206 | apply QCw_207 | apply QCw_410 | apply QCw_411 | apply QCw_412 | apply QCw_413 | apply QCw_2025 | refine QC_g (by decide) ?_ | refine QC_sm (by assumption) (by decide) (by decide) ?_))⟩
            · skip
              refine zs_aload_n (pc := 75) C dX3_readJoint_75 rfl ?_
              refine zs_iconst (pc := 76) C dX3_readJoint_76 (by decide) ?_
              refine zs_putz (r := 412) (pc := 77) C dX3_readJoint_77 w_X3_171 f_4_12 rfl (r_412 0) (by omega) (by omega) ?_
              refine zs_aload_n (pc := 80) C dX3_readJoint_80 rfl ?_
              refine zs_iload_n (pc := 81) C dX3_readJoint_81 rfl ?_
              refine zs_iconst (pc := 82) C dX3_readJoint_82 (by decide) ?_
              refine zs_icmp_ge (tgt := 90) (pc := 83) C dX3_readJoint_83 (by decide) (fun h83 => ?_) (fun h83 => ?_)
              · skip
                refine zs_iconst (pc := 90) C dX3_readJoint_90 (by decide) ?_
                refine zs_putz (r := 413) (pc := 91) C dX3_readJoint_91 w_X3_175 f_4_13 rfl (r_413 0) (by omega) (by omega) ?_
                refine zs_aload_n (pc := 94) C dX3_readJoint_94 rfl ?_
                refine zs_iload_n (pc := 95) C dX3_readJoint_95 rfl ?_
                refine zVv1 (pc := 96) C dX3_readJoint_96 v_X3_200 (c_X3_pushF hX (by repeat (first | assumption | apply QCw_407 | apply QCw_408 | apply QCw_406 | apply QCw_2037 | apply QCw_2036 | apply QCw_2038 | apply QCw_2039 | apply QCw_2040 | apply QCw_2041 | apply QCw_2042 | apply QCw_2043 | apply QCw_609 | apply QCw_610 | apply QCw_611 | apply QCw_612 | apply QCw_2016 | apply QCw_2017 | apply QCw_2014 | apply QCw_2015 | apply QCw_206 | apply QCw_207 | apply QCw_410 | apply QCw_411 | apply QCw_412 | apply QCw_413 | apply QCw_2025 | refine QC_g (by decide) ?_ | refine QC_sm (by assumption) (by decide) (by decide) ?_)) (by first | omega | (simp only [zuI_1, zuI_2, zuJ_1, zuJ_2, zuJ_3, zuP_1, zuP_2, zuP_3, zuC_1, zuC_2, reduceIte, Nat.reduceEqDiff, false_and, and_false, true_and, and_true, and_self, or_true, true_or, or_false, false_or]; omega))) (by decide) (by decide) ⟨Nat.zero_le _, Nat.zero_le _⟩ (Nat.le_of_ble_eq_true rfl) (fun G96 hp96 => ?_)
                obtain ⟨hz96, hq96⟩ := hp96
                try simp only [zuI_1, zuI_2, zuJ_1, zuJ_2, zuJ_3, zuP_1, zuP_2, zuP_3, zuC_1, zuC_2, reduceIte, Nat.reduceEqDiff, false_and, and_false, true_and, and_true, and_self, or_true, true_or, or_false, false_or] at hq96
                have hZ96 := hq96
                exact zs_vret (pc := 99) C hr hlk dX3_readJoint_99 ⟨by repeat (first | exact zsm_rf | assumption | refine zsm_C (by decide) ?_ | refine zsm_I (by decide) ?_ | refine zsm_J ?_ | refine zsm_c (by assumption) (by decide) ?_), by unfold sJoint sJB; (repeat' split) <;> first | assumption | (exfalso; omega) | exact (by repeat (first | assumption | apply QCw_407 | apply QCw_408 | apply QCw_406 | apply QCw_2037 | apply QCw_2036 | apply QCw_2038 | apply QCw_2039 | apply QCw_2040 | apply QCw_2041 | apply QCw_2042 | apply QCw_2043 | apply QCw_609 | apply QCw_610 | apply QCw_611 | apply QCw_612 | apply QCw_2016 | apply QCw_2017 | apply QCw_2014 | apply QCw_2015 | apply QCw_206 | apply QCw_207 | apply QCw_410 | apply QCw_411 | apply QCw_412 | apply QCw_413 | apply QCw_2025 | refine QC_g (by decide) ?_ | refine QC_sm (by assumption) (by decide) (by decide) ?_))⟩
              · skip
                refine zs_iconst (pc := 86) C dX3_readJoint_86 (by decide) ?_
                refine zs_goto (tgt := 91) (pc := 87) C dX3_readJoint_87 (by decide) ?_
                refine zs_putz (r := 413) (pc := 91) C dX3_readJoint_91 w_X3_175 f_4_13 rfl (r_413 0) (by omega) (by omega) ?_
                refine zs_aload_n (pc := 94) C dX3_readJoint_94 rfl ?_
                refine zs_iload_n (pc := 95) C dX3_readJoint_95 rfl ?_
                refine zVv1 (pc := 96) C dX3_readJoint_96 v_X3_200 (c_X3_pushF hX (by repeat (first | assumption | apply QCw_407 | apply QCw_408 | apply QCw_406 | apply QCw_2037 | apply QCw_2036 | apply QCw_2038 | apply QCw_2039 | apply QCw_2040 | apply QCw_2041 | apply QCw_2042 | apply QCw_2043 | apply QCw_609 | apply QCw_610 | apply QCw_611 | apply QCw_612 | apply QCw_2016 | apply QCw_2017 | apply QCw_2014 | apply QCw_2015 | apply QCw_206 | apply QCw_207 | apply QCw_410 | apply QCw_411 | apply QCw_412 | apply QCw_413 | apply QCw_2025 | refine QC_g (by decide) ?_ | refine QC_sm (by assumption) (by decide) (by decide) ?_)) (by first | omega | (simp only [zuI_1, zuI_2, zuJ_1, zuJ_2, zuJ_3, zuP_1, zuP_2, zuP_3, zuC_1, zuC_2, reduceIte, Nat.reduceEqDiff, false_and, and_false, true_and, and_true, and_self, or_true, true_or, or_false, false_or]; omega))) (by decide) (by decide) ⟨Nat.zero_le _, Nat.zero_le _⟩ (Nat.le_of_ble_eq_true rfl) (fun G96 hp96 => ?_)
                obtain ⟨hz96, hq96⟩ := hp96
                try simp only [zuI_1, zuI_2, zuJ_1, zuJ_2, zuJ_3, zuP_1, zuP_2, zuP_3, zuC_1, zuC_2, reduceIte, Nat.reduceEqDiff, false_and, and_false, true_and, and_true, and_self, or_true, true_or, or_false, false_or] at hq96
                have hZ96 := hq96
                exact zs_vret (pc := 99) C hr hlk dX3_readJoint_99 ⟨by repeat (first | exact zsm_rf | assumption | refine zsm_C (by decide) ?_ | refine zsm_I (by decide) ?_ | refine zsm_J ?_ | refine zsm_c (by assumption) (by decide) ?_), by unfold sJoint sJB; (repeat' split) <;> first | assumption | (exfalso; omega) | exact (by repeat (first | assumption | apply QCw_407 | apply QCw_408 | apply QCw_406 | apply QCw_2037 | apply QCw_2036 | apply QCw_2038 | apply QCw_2039 | apply QCw_2040 | apply QCw_2041 | apply QCw_2042 | apply QCw_2043 | apply QCw_609 | apply QCw_610 | apply QCw_611 | apply QCw_612 | apply QCw_2016 | apply QCw_2017 | apply QCw_2014 | apply QCw_2015 | apply QCw_206 | apply QCw_207 | apply QCw_410 | apply QCw_411 | apply QCw_412 | apply QCw_413 | apply QCw_2025 | refine QC_g (by decide) ?_ | refine QC_sm (by assumption) (by decide) (by decide) ?_))⟩
          · skip
            refine zs_aload_n (pc := 60) C dX3_readJoint_60 rfl ?_
            refine zs_iconst (pc := 61) C dX3_readJoint_61 (by decide) ?_
            refine zVv1 (pc := 62) C dX3_readJoint_62 v_X3_114 (c_X3_failF hX (by repeat (first | assumption | apply QCw_407 | apply QCw_408 | apply QCw_406 | apply QCw_2037 | apply QCw_2036 | apply QCw_2038 | apply QCw_2039 | apply QCw_2040 | apply QCw_2041 | apply QCw_2042 | apply QCw_2043 | apply QCw_609 | apply QCw_610 | apply QCw_611 | apply QCw_612 | apply QCw_2016 | apply QCw_2017 | apply QCw_2014 | apply QCw_2015 | apply QCw_206 | apply QCw_207 | apply QCw_410 | apply QCw_411 | apply QCw_412 | apply QCw_413 | apply QCw_2025 | refine QC_g (by decide) ?_ | refine QC_sm (by assumption) (by decide) (by decide) ?_))) (by decide) (by decide) ⟨Nat.zero_le _, Nat.zero_le _⟩ (Nat.le_of_ble_eq_true rfl) (fun G62 hp62 => ?_)
            obtain ⟨hz62, hq62⟩ := hp62
            have hZ62 := hq62
            refine zs_goto (tgt := 99) (pc := 65) C dX3_readJoint_65 (by decide) ?_
            exact zs_vret (pc := 99) C hr hlk dX3_readJoint_99 ⟨by repeat (first | exact zsm_rf | assumption | refine zsm_C (by decide) ?_ | refine zsm_I (by decide) ?_ | refine zsm_J ?_ | refine zsm_c (by assumption) (by decide) ?_), by unfold sJoint sJB; (repeat' split) <;> first | assumption | (exfalso; omega) | exact (by repeat (first | assumption | apply QCw_407 | apply QCw_408 | apply QCw_406 | apply QCw_2037 | apply QCw_2036 | apply QCw_2038 | apply QCw_2039 | apply QCw_2040 | apply QCw_2041 | apply QCw_2042 | apply QCw_2043 | apply QCw_609 | apply QCw_610 | apply QCw_611 | apply QCw_612 | apply QCw_2016 | apply QCw_2017 | apply QCw_2014 | apply QCw_2015 | apply QCw_206 | apply QCw_207 | apply QCw_410 | apply QCw_411 | apply QCw_412 | apply QCw_413 | apply QCw_2025 | refine QC_g (by decide) ?_ | refine QC_sm (by assumption) (by decide) (by decide) ?_))⟩
    · skip
      refine zs_iconst (pc := 22) C dX3_readJoint_22 (by decide) ?_
      refine zs_goto (tgt := 27) (pc := 23) C dX3_readJoint_23 (by decide) ?_
      refine zVv1 (pc := 27) C dX3_readJoint_27 v_X3_188 (c_X3_releaseF hX (by repeat (first | assumption | apply QCw_407 | apply QCw_408 | apply QCw_406 | apply QCw_2037 | apply QCw_2036 | apply QCw_2038 | apply QCw_2039 | apply QCw_2040 | apply QCw_2041 | apply QCw_2042 | apply QCw_2043 | apply QCw_609 | apply QCw_610 | apply QCw_611 | apply QCw_612 | apply QCw_2016 | apply QCw_2017 | apply QCw_2014 | apply QCw_2015 | apply QCw_206 | apply QCw_207 | apply QCw_410 | apply QCw_411 | apply QCw_412 | apply QCw_413 | apply QCw_2025 | refine QC_g (by decide) ?_ | refine QC_sm (by assumption) (by decide) (by decide) ?_))) (by decide) (by decide) ⟨Nat.zero_le _, Nat.zero_le _⟩ (Nat.le_of_ble_eq_true rfl) (fun G27 hp27 => ?_)
      obtain ⟨hz27, hq27⟩ := hp27
      have hZ27 := hq27
      first | (have hJ : sRel 5 A = sJR k A := (by unfold sJR; rw [if_pos (by omega)]); rw [hJ] at hZ27) | (have hJ : sRel (bnd k) A = sJR k A := (by unfold sJR; rw [if_neg (by omega)]); rw [hJ] at hZ27) | skip
      refine zs_iload_n (pc := 30) C dX3_readJoint_30 rfl ?_
      refine zs_if_eq (tgt := 68) (pc := 31) C dX3_readJoint_31 (by decide) (fun h31 => ?_) (fun h31 => ?_)
      · skip
        refine zs_aload_n (pc := 68) C dX3_readJoint_68 rfl ?_
        refine zVi0 (pc := 69) C dX3_readJoint_69 v_X3_197 (c_X3_countKnotF hX (by repeat (first | assumption | apply QCw_407 | apply QCw_408 | apply QCw_406 | apply QCw_2037 | apply QCw_2036 | apply QCw_2038 | apply QCw_2039 | apply QCw_2040 | apply QCw_2041 | apply QCw_2042 | apply QCw_2043 | apply QCw_609 | apply QCw_610 | apply QCw_611 | apply QCw_612 | apply QCw_2016 | apply QCw_2017 | apply QCw_2014 | apply QCw_2015 | apply QCw_206 | apply QCw_207 | apply QCw_410 | apply QCw_411 | apply QCw_412 | apply QCw_413 | apply QCw_2025 | refine QC_g (by decide) ?_ | refine QC_sm (by assumption) (by decide) (by decide) ?_))) (by decide) (by decide) ⟨Nat.zero_le _, Nat.zero_le _⟩ (Nat.le_of_ble_eq_true rfl) (fun x69 G69 l69 u69 hp69 => ?_)
        obtain ⟨hz69, hq69⟩ := hp69
        have hZ69 := hq69.1
        have hX69 := hq69.2
        refine zs_if_eq (tgt := 99) (pc := 72) C dX3_readJoint_72 (by decide) (fun h72 => ?_) (fun h72 => ?_)
        · skip
          exact zs_vret (pc := 99) C hr hlk dX3_readJoint_99 ⟨by repeat (first | exact zsm_rf | assumption | refine zsm_C (by decide) ?_ | refine zsm_I (by decide) ?_ | refine zsm_J ?_ | refine zsm_c (by assumption) (by decide) ?_), by unfold sJoint sJB; (repeat' split) <;> first | assumption | (exfalso; omega) | exact (by repeat (first | assumption | apply QCw_407 | apply QCw_408 | apply QCw_406 | apply QCw_2037 | apply QCw_2036 | apply QCw_2038 | apply QCw_2039 | apply QCw_2040 | apply QCw_2041 | apply QCw_2042 | apply QCw_2043 | apply QCw_609 | apply QCw_610 | apply QCw_611 | apply QCw_612 | apply QCw_2016 | apply QCw_2017 | apply QCw_2014 | apply QCw_2015 | apply QCw_206 | apply QCw_207 | apply QCw_410 | apply QCw_411 | apply QCw_412 | apply QCw_413 | apply QCw_2025 | refine QC_g (by decide) ?_ | refine QC_sm (by assumption) (by decide) (by decide) ?_))⟩
        · skip
          refine zs_aload_n (pc := 75) C dX3_readJoint_75 rfl ?_
          refine zs_iconst (pc := 76) C dX3_readJoint_76 (by decide) ?_
          refine zs_putz (r := 412) (pc := 77) C dX3_readJoint_77 w_X3_171 f_4_12 rfl (r_412 0) (by omega) (by omega) ?_
          refine zs_aload_n (pc := 80) C dX3_readJoint_80 rfl ?_
          refine zs_iload_n (pc := 81) C dX3_readJoint_81 rfl ?_
          refine zs_iconst (pc := 82) C dX3_readJoint_82 (by decide) ?_
          refine zs_icmp_ge (tgt := 90) (pc := 83) C dX3_readJoint_83 (by decide) (fun h83 => ?_) (fun h83 => ?_)
          · skip
            refine zs_iconst (pc := 90) C dX3_readJoint_90 (by decide) ?_
            refine zs_putz (r := 413) (pc := 91) C dX3_readJoint_91 w_X3_175 f_4_13 rfl (r_413 0) (by omega) (by omega) ?_
            refine zs_aload_n (pc := 94) C dX3_readJoint_94 rfl ?_
            refine zs_iload_n (pc := 95) C dX3_readJoint_95 rfl ?_
            refine zVv1 (pc := 96) C dX3_readJoint_96 v_X3_200 (c_X3_pushF hX (by repeat (first | assumption | apply QCw_407 | apply QCw_408 | apply QCw_406 | apply QCw_2037 | apply QCw_2036 | apply QCw_2038 | apply QCw_2039 | apply QCw_2040 | apply QCw_2041 | apply QCw_2042 | apply QCw_2043 | apply QCw_609 | apply QCw_610 | apply QCw_611 | apply QCw_612 | apply QCw_2016 | apply QCw_2017 | apply QCw_2014 | apply QCw_2015 | apply QCw_206 | apply QCw_207 | apply QCw_410 | apply QCw_411 | apply QCw_412 | apply QCw_413 | apply QCw_2025 | refine QC_g (by decide) ?_ | refine QC_sm (by assumption) (by decide) (by decide) ?_)) (by first | omega | (simp only [zuI_1, zuI_2, zuJ_1, zuJ_2, zuJ_3, zuP_1, zuP_2, zuP_3, zuC_1, zuC_2, reduceIte, Nat.reduceEqDiff, false_and, and_false, true_and, and_true, and_self, or_true, true_or, or_false, false_or]; omega))) (by decide) (by decide) ⟨Nat.zero_le _, Nat.zero_le _⟩ (Nat.le_of_ble_eq_true rfl) (fun G96 hp96 => ?_)
            obtain ⟨hz96, hq96⟩ := hp96
            try simp only [zuI_1, zuI_2, zuJ_1, zuJ_2, zuJ_3, zuP_1, zuP_2, zuP_3, zuC_1, zuC_2, reduceIte, Nat.reduceEqDiff, false_and, and_false, true_and, and_true, and_self, or_true, true_or, or_false, false_or] at hq96
            have hZ96 := hq96
            exact zs_vret (pc := 99) C hr hlk dX3_readJoint_99 ⟨by repeat (first | exact zsm_rf | assumption | refine zsm_C (by decide) ?_ | refine zsm_I (by decide) ?_ | refine zsm_J ?_ | refine zsm_c (by assumption) (by decide) ?_), by unfold sJoint sJB; (repeat' split) <;> first | assumption | (exfalso; omega) | exact (by repeat (first | assumption | apply QCw_407 | apply QCw_408 | apply QCw_406 | apply QCw_2037 | apply QCw_2036 | apply QCw_2038 | apply QCw_2039 | apply QCw_2040 | apply QCw_2041 | apply QCw_2042 | apply QCw_2043 | apply QCw_609 | apply QCw_610 | apply QCw_611 | apply QCw_612 | apply QCw_2016 | apply QCw_2017 | apply QCw_2014 | apply QCw_2015 | apply QCw_206 | apply QCw_207 | apply QCw_410 | apply QCw_411 | apply QCw_412 | apply QCw_413 | apply QCw_2025 | refine QC_g (by decide) ?_ | refine QC_sm (by assumption) (by decide) (by decide) ?_))⟩
          · skip
            refine zs_iconst (pc := 86) C dX3_readJoint_86 (by decide) ?_
            refine zs_goto (tgt := 91) (pc := 87) C dX3_readJoint_87 (by decide) ?_
            refine zs_putz (r := 413) (pc := 91) C dX3_readJoint_91 w_X3_175 f_4_13 rfl (r_413 0) (by omega) (by omega) ?_
            refine zs_aload_n (pc := 94) C dX3_readJoint_94 rfl ?_
            refine zs_iload_n (pc := 95) C dX3_readJoint_95 rfl ?_
            refine zVv1 (pc := 96) C dX3_readJoint_96 v_X3_200 (c_X3_pushF hX (by repeat (first | assumption | apply QCw_407 | apply QCw_408 | apply QCw_406 | apply QCw_2037 | apply QCw_2036 | apply QCw_2038 | apply QCw_2039 | apply QCw_2040 | apply QCw_2041 | apply QCw_2042 | apply QCw_2043 | apply QCw_609 | apply QCw_610 | apply QCw_611 | apply QCw_612 | apply QCw_2016 | apply QCw_2017 | apply QCw_2014 | apply QCw_2015 | apply QCw_206 | apply QCw_207 | apply QCw_410 | apply QCw_411 | apply QCw_412 | apply QCw_413 | apply QCw_2025 | refine QC_g (by decide) ?_ | refine QC_sm (by assumption) (by decide) (by decide) ?_)) (by first | omega | (simp only [zuI_1, zuI_2, zuJ_1, zuJ_2, zuJ_3, zuP_1, zuP_2, zuP_3, zuC_1, zuC_2, reduceIte, Nat.reduceEqDiff, false_and, and_false, true_and, and_true, and_self, or_true, true_or, or_false, false_or]; omega))) (by decide) (by decide) ⟨Nat.zero_le _, Nat.zero_le _⟩ (Nat.le_of_ble_eq_true rfl) (fun G96 hp96 => ?_)
            obtain ⟨hz96, hq96⟩ := hp96
            try simp only [zuI_1, zuI_2, zuJ_1, zuJ_2, zuJ_3, zuP_1, zuP_2, zuP_3, zuC_1, zuC_2, reduceIte, Nat.reduceEqDiff, false_and, and_false, true_and, and_true, and_self, or_true, true_or, or_false, false_or] at hq96
            have hZ96 := hq96
            exact zs_vret (pc := 99) C hr hlk dX3_readJoint_99 ⟨by repeat (first | exact zsm_rf | assumption | refine zsm_C (by decide) ?_ | refine zsm_I (by decide) ?_ | refine zsm_J ?_ | refine zsm_c (by assumption) (by decide) ?_), by unfold sJoint sJB; (repeat' split) <;> first | assumption | (exfalso; omega) | exact (by repeat (first | assumption | apply QCw_407 | apply QCw_408 | apply QCw_406 | apply QCw_2037 | apply QCw_2036 | apply QCw_2038 | apply QCw_2039 | apply QCw_2040 | apply QCw_2041 | apply QCw_2042 | apply QCw_2043 | apply QCw_609 | apply QCw_610 | apply QCw_611 | apply QCw_612 | apply QCw_2016 | apply QCw_2017 | apply QCw_2014 | apply QCw_2015 | apply QCw_206 | apply QCw_207 | apply QCw_410 | apply QCw_411 | apply QCw_412 | apply QCw_413 | apply QCw_2025 | refine QC_g (by decide) ?_ | refine QC_sm (by assumption) (by decide) (by decide) ?_))⟩
      · skip
        refine zs_aload_n (pc := 34) C dX3_readJoint_34 rfl ?_
        refine zs_geti (r := 410) (pc := 35) C dX3_readJoint_35 w_X3_165 f_4_10 rfl (r_410 0) (fun v35 e35 l35 u35 => ?_)
        try simp only [QC_410 hZ27, QC_410 hZ] at e35
        try subst v35
        refine zs_if_le (tgt := 68) (pc := 38) C dX3_readJoint_38 (by decide) (fun h38 => ?_) (fun h38 => ?_)
        · skip
          refine zs_aload_n (pc := 68) C dX3_readJoint_68 rfl ?_
          refine zVi0 (pc := 69) C dX3_readJoint_69 v_X3_197 (c_X3_countKnotF hX (by repeat (first | assumption | apply QCw_407 | apply QCw_408 | apply QCw_406 | apply QCw_2037 | apply QCw_2036 | apply QCw_2038 | apply QCw_2039 | apply QCw_2040 | apply QCw_2041 | apply QCw_2042 | apply QCw_2043 | apply QCw_609 | apply QCw_610 | apply QCw_611 | apply QCw_612 | apply QCw_2016 | apply QCw_2017 | apply QCw_2014 | apply QCw_2015 | apply QCw_206 | apply QCw_207 | apply QCw_410 | apply QCw_411 | apply QCw_412 | apply QCw_413 | apply QCw_2025 | refine QC_g (by decide) ?_ | refine QC_sm (by assumption) (by decide) (by decide) ?_))) (by decide) (by decide) ⟨Nat.zero_le _, Nat.zero_le _⟩ (Nat.le_of_ble_eq_true rfl) (fun x69 G69 l69 u69 hp69 => ?_)
          obtain ⟨hz69, hq69⟩ := hp69
          have hZ69 := hq69.1
          have hX69 := hq69.2
          refine zs_if_eq (tgt := 99) (pc := 72) C dX3_readJoint_72 (by decide) (fun h72 => ?_) (fun h72 => ?_)
          · skip
            exact zs_vret (pc := 99) C hr hlk dX3_readJoint_99 ⟨by repeat (first | exact zsm_rf | assumption | refine zsm_C (by decide) ?_ | refine zsm_I (by decide) ?_ | refine zsm_J ?_ | refine zsm_c (by assumption) (by decide) ?_), by unfold sJoint sJB; (repeat' split) <;> first | assumption | (exfalso; omega) | exact (by repeat (first | assumption | apply QCw_407 | apply QCw_408 | apply QCw_406 | apply QCw_2037 | apply QCw_2036 | apply QCw_2038 | apply QCw_2039 | apply QCw_2040 | apply QCw_2041 | apply QCw_2042 | apply QCw_2043 | apply QCw_609 | apply QCw_610 | apply QCw_611 | apply QCw_612 | apply QCw_2016 | apply QCw_2017 | apply QCw_2014 | apply QCw_2015 | apply QCw_206 | apply QCw_207 | apply QCw_410 | apply QCw_411 | apply QCw_412 | apply QCw_413 | apply QCw_2025 | refine QC_g (by decide) ?_ | refine QC_sm (by assumption) (by decide) (by decide) ?_))⟩
          · skip
            refine zs_aload_n (pc := 75) C dX3_readJoint_75 rfl ?_
            refine zs_iconst (pc := 76) C dX3_readJoint_76 (by decide) ?_
            refine zs_putz (r := 412) (pc := 77) C dX3_readJoint_77 w_X3_171 f_4_12 rfl (r_412 0) (by omega) (by omega) ?_
            refine zs_aload_n (pc := 80) C dX3_readJoint_80 rfl ?_
            refine zs_iload_n (pc := 81) C dX3_readJoint_81 rfl ?_
            refine zs_iconst (pc := 82) C dX3_readJoint_82 (by decide) ?_
            refine zs_icmp_ge (tgt := 90) (pc := 83) C dX3_readJoint_83 (by decide) (fun h83 => ?_) (fun h83 => ?_)
            · skip
              refine zs_iconst (pc := 90) C dX3_readJoint_90 (by decide) ?_
              refine zs_putz (r := 413) (pc := 91) C dX3_readJoint_91 w_X3_175 f_4_13 rfl (r_413 0) (by omega) (by omega) ?_
              refine zs_aload_n (pc := 94) C dX3_readJoint_94 rfl ?_
              refine zs_iload_n (pc := 95) C dX3_readJoint_95 rfl ?_
              refine zVv1 (pc := 96) C dX3_readJoint_96 v_X3_200 (c_X3_pushF hX (by repeat (first | assumption | apply QCw_407 | apply QCw_408 | apply QCw_406 | apply QCw_2037 | apply QCw_2036 | apply QCw_2038 | apply QCw_2039 | apply QCw_2040 | apply QCw_2041 | apply QCw_2042 | apply QCw_2043 | apply QCw_609 | apply QCw_610 | apply QCw_611 | apply QCw_612 | apply QCw_2016 | apply QCw_2017 | apply QCw_2014 | apply QCw_2015 | apply QCw_206 | apply QCw_207 | apply QCw_410 | apply QCw_411 | apply QCw_412 | apply QCw_413 | apply QCw_2025 | refine QC_g (by decide) ?_ | refine QC_sm (by assumption) (by decide) (by decide) ?_)) (by first | omega | (simp only [zuI_1, zuI_2, zuJ_1, zuJ_2, zuJ_3, zuP_1, zuP_2, zuP_3, zuC_1, zuC_2, reduceIte, Nat.reduceEqDiff, false_and, and_false, true_and, and_true, and_self, or_true, true_or, or_false, false_or]; omega))) (by decide) (by decide) ⟨Nat.zero_le _, Nat.zero_le _⟩ (Nat.le_of_ble_eq_true rfl) (fun G96 hp96 => ?_)
              obtain ⟨hz96, hq96⟩ := hp96
              try simp only [zuI_1, zuI_2, zuJ_1, zuJ_2, zuJ_3, zuP_1, zuP_2, zuP_3, zuC_1, zuC_2, reduceIte, Nat.reduceEqDiff, false_and, and_false, true_and, and_true, and_self, or_true, true_or, or_false, false_or] at hq96
              have hZ96 := hq96
              exact zs_vret (pc := 99) C hr hlk dX3_readJoint_99 ⟨by repeat (first | exact zsm_rf | assumption | refine zsm_C (by decide) ?_ | refine zsm_I (by decide) ?_ | refine zsm_J ?_ | refine zsm_c (by assumption) (by decide) ?_), by unfold sJoint sJB; (repeat' split) <;> first | assumption | (exfalso; omega) | exact (by repeat (first | assumption | apply QCw_407 | apply QCw_408 | apply QCw_406 | apply QCw_2037 | apply QCw_2036 | apply QCw_2038 | apply QCw_2039 | apply QCw_2040 | apply QCw_2041 | apply QCw_2042 | apply QCw_2043 | apply QCw_609 | apply QCw_610 | apply QCw_611 | apply QCw_612 | apply QCw_2016 | apply QCw_2017 | apply QCw_2014 | apply QCw_2015 | apply QCw_206 | apply QCw_207 | apply QCw_410 | apply QCw_411 | apply QCw_412 | apply QCw_413 | apply QCw_2025 | refine QC_g (by decide) ?_ | refine QC_sm (by assumption) (by decide) (by decide) ?_))⟩
            · skip
              refine zs_iconst (pc := 86) C dX3_readJoint_86 (by decide) ?_
              refine zs_goto (tgt := 91) (pc := 87) C dX3_readJoint_87 (by decide) ?_
              refine zs_putz (r := 413) (pc := 91) C dX3_readJoint_91 w_X3_175 f_4_13 rfl (r_413 0) (by omega) (by omega) ?_
              refine zs_aload_n (pc := 94) C dX3_readJoint_94 rfl ?_
              refine zs_iload_n (pc := 95) C dX3_readJoint_95 rfl ?_
              refine zVv1 (pc := 96) C dX3_readJoint_96 v_X3_200 (c_X3_pushF hX (by repeat (first | assumption | apply QCw_407 | apply QCw_408 | apply QCw_406 | apply QCw_2037 | apply QCw_2036 | apply QCw_2038 | apply QCw_2039 | apply QCw_2040 | apply QCw_2041 | apply QCw_2042 | apply QCw_2043 | apply QCw_609 | apply QCw_610 | apply QCw_611 | apply QCw_612 | apply QCw_2016 | apply QCw_2017 | apply QCw_2014 | apply QCw_2015 | apply QCw_206 | apply QCw_207 | apply QCw_410 | apply QCw_411 | apply QCw_412 | apply QCw_413 | apply QCw_2025 | refine QC_g (by decide) ?_ | refine QC_sm (by assumption) (by decide) (by decide) ?_)) (by first | omega | (simp only [zuI_1, zuI_2, zuJ_1, zuJ_2, zuJ_3, zuP_1, zuP_2, zuP_3, zuC_1, zuC_2, reduceIte, Nat.reduceEqDiff, false_and, and_false, true_and, and_true, and_self, or_true, true_or, or_false, false_or]; omega))) (by decide) (by decide) ⟨Nat.zero_le _, Nat.zero_le _⟩ (Nat.le_of_ble_eq_true rfl) (fun G96 hp96 => ?_)
              obtain ⟨hz96, hq96⟩ := hp96
              try simp only [zuI_1, zuI_2, zuJ_1, zuJ_2, zuJ_3, zuP_1, zuP_2, zuP_3, zuC_1, zuC_2, reduceIte, Nat.reduceEqDiff, false_and, and_false, true_and, and_true, and_self, or_true, true_or, or_false, false_or] at hq96
              have hZ96 := hq96
              exact zs_vret (pc := 99) C hr hlk dX3_readJoint_99 ⟨by repeat (first | exact zsm_rf | assumption | refine zsm_C (by decide) ?_ | refine zsm_I (by decide) ?_ | refine zsm_J ?_ | refine zsm_c (by assumption) (by decide) ?_), by unfold sJoint sJB; (repeat' split) <;> first | assumption | (exfalso; omega) | exact (by repeat (first | assumption | apply QCw_407 | apply QCw_408 | apply QCw_406 | apply QCw_2037 | apply QCw_2036 | apply QCw_2038 | apply QCw_2039 | apply QCw_2040 | apply QCw_2041 | apply QCw_2042 | apply QCw_2043 | apply QCw_609 | apply QCw_610 | apply QCw_611 | apply QCw_612 | apply QCw_2016 | apply QCw_2017 | apply QCw_2014 | apply QCw_2015 | apply QCw_206 | apply QCw_207 | apply QCw_410 | apply QCw_411 | apply QCw_412 | apply QCw_413 | apply QCw_2025 | refine QC_g (by decide) ?_ | refine QC_sm (by assumption) (by decide) (by decide) ?_))⟩
        · skip
          refine zs_binds (pc := 41) C dX3_readJoint_41 q_X3_220 ?_
          refine zs_aload_n (pc := 44) C dX3_readJoint_44 rfl ?_
          refine zs_getf (pc := 45) C dX3_readJoint_45 w_X3_27 f_4_9 (by decide) ?_
          refine zs_aload_n (pc := 48) C dX3_readJoint_48 rfl ?_
          refine zs_geti (r := 410) (pc := 49) C dX3_readJoint_49 w_X3_165 f_4_10 rfl (r_410 0) (fun v49 e49 l49 u49 => ?_)
          try simp only [QC_410 hZ27, QC_410 hZ] at e49
          try subst v49
          refine zs_iconst (pc := 52) C dX3_readJoint_52 (by decide) ?_
          first | refine zs_isub (pc := 53) C dX3_readJoint_53 (by omega) ?_ | refine zs_isubF (pc := 53) C dX3_readJoint_53 (fun z53 hz531 hz532 => ?_)
          refine zs_iald (r := 2025) (pc := 54) C dX3_readJoint_54 a_25 (by decide) (by omega) rfl (r_2025 _) (fun v54 e54 l54 u54 => ?_)
          try simp only [QC_2025 hZ27, QC_2025 hZ] at e54
          try subst v54
          refine zs_xald (pc := 55) C 1 dX3_readJoint_55 (by decide) rfl (by have := hX.1; have := hX.2.1; omega) (fun v55 e55 l55 u55 => ?_)
          first | (have hb55 := hX.2.2.2 ((sJR k A) 26 ((sJR k A) 22 0 - 1).toNat).toNat (by omega); have hc55 : v55 = bnd ((sJR k A) 26 ((sJR k A) 22 0 - 1).toNat) := e55.trans hb55; subst hc55) | skip
          refine zs_iconst (pc := 56) C dX3_readJoint_56 (by decide) ?_
          refine zs_icmp_ne (tgt := 68) (pc := 57) C dX3_readJoint_57 (by decide) (fun h57 => ?_) (fun h57 => ?_)
          · skip
            refine zs_aload_n (pc := 68) C dX3_readJoint_68 rfl ?_
            refine zVi0 (pc := 69) C dX3_readJoint_69 v_X3_197 (c_X3_countKnotF hX (by repeat (first | assumption | apply QCw_407 | apply QCw_408 | apply QCw_406 | apply QCw_2037 | apply QCw_2036 | apply QCw_2038 | apply QCw_2039 | apply QCw_2040 | apply QCw_2041 | apply QCw_2042 | apply QCw_2043 | apply QCw_609 | apply QCw_610 | apply QCw_611 | apply QCw_612 | apply QCw_2016 | apply QCw_2017 | apply QCw_2014 | apply QCw_2015 | apply QCw_206 | apply QCw_207 | apply QCw_410 | apply QCw_411 | apply QCw_412 | apply QCw_413 | apply QCw_2025 | refine QC_g (by decide) ?_ | refine QC_sm (by assumption) (by decide) (by decide) ?_))) (by decide) (by decide) ⟨Nat.zero_le _, Nat.zero_le _⟩ (Nat.le_of_ble_eq_true rfl) (fun x69 G69 l69 u69 hp69 => ?_)
            obtain ⟨hz69, hq69⟩ := hp69
            have hZ69 := hq69.1
            have hX69 := hq69.2
            refine zs_if_eq (tgt := 99) (pc := 72) C dX3_readJoint_72 (by decide) (fun h72 => ?_) (fun h72 => ?_)
            · skip
              exact zs_vret (pc := 99) C hr hlk dX3_readJoint_99 ⟨by repeat (first | exact zsm_rf | assumption | refine zsm_C (by decide) ?_ | refine zsm_I (by decide) ?_ | refine zsm_J ?_ | refine zsm_c (by assumption) (by decide) ?_), by unfold sJoint sJB; (repeat' split) <;> first | assumption | (exfalso; omega) | exact (by repeat (first | assumption | apply QCw_407 | apply QCw_408 | apply QCw_406 | apply QCw_2037 | apply QCw_2036 | apply QCw_2038 | apply QCw_2039 | apply QCw_2040 | apply QCw_2041 | apply QCw_2042 | apply QCw_2043 | apply QCw_609 | apply QCw_610 | apply QCw_611 | apply QCw_612 | apply QCw_2016 | apply QCw_2017 | apply QCw_2014 | apply QCw_2015 | apply QCw_206 | apply QCw_207 | apply QCw_410 | apply QCw_411 | apply QCw_412 | apply QCw_413 | apply QCw_2025 | refine QC_g (by decide) ?_ | refine QC_sm (by assumption) (by decide) (by decide) ?_))⟩
            · skip
              refine zs_aload_n (pc := 75) C dX3_readJoint_75 rfl ?_
              refine zs_iconst (pc := 76) C dX3_readJoint_76 (by decide) ?_
              refine zs_putz (r := 412) (pc := 77) C dX3_readJoint_77 w_X3_171 f_4_12 rfl (r_412 0) (by omega) (by omega) ?_
              refine zs_aload_n (pc := 80) C dX3_readJoint_80 rfl ?_
              refine zs_iload_n (pc := 81) C dX3_readJoint_81 rfl ?_
              refine zs_iconst (pc := 82) C dX3_readJoint_82 (by decide) ?_
              refine zs_icmp_ge (tgt := 90) (pc := 83) C dX3_readJoint_83 (by decide) (fun h83 => ?_) (fun h83 => ?_)
              · skip
                refine zs_iconst (pc := 90) C dX3_readJoint_90 (by decide) ?_
                refine zs_putz (r := 413) (pc := 91) C dX3_readJoint_91 w_X3_175 f_4_13 rfl (r_413 0) (by omega) (by omega) ?_
                refine zs_aload_n (pc := 94) C dX3_readJoint_94 rfl ?_
                refine zs_iload_n (pc := 95) C dX3_readJoint_95 rfl ?_
                refine zVv1 (pc := 96) C dX3_readJoint_96 v_X3_200 (c_X3_pushF hX (by repeat (first | assumption | apply QCw_407 | apply QCw_408 | apply QCw_406 | apply QCw_2037 | apply QCw_2036 | apply QCw_2038 | apply QCw_2039 | apply QCw_2040 | apply QCw_2041 | apply QCw_2042 | apply QCw_2043 | apply QCw_609 | apply QCw_610 | apply QCw_611 | apply QCw_612 | apply QCw_2016 | apply QCw_2017 | apply QCw_2014 | apply QCw_2015 | apply QCw_206 | apply QCw_207 | apply QCw_410 | apply QCw_411 | apply QCw_412 | apply QCw_413 | apply QCw_2025 | refine QC_g (by decide) ?_ | refine QC_sm (by assumption) (by decide) (by decide) ?_)) (by first | omega | (simp only [zuI_1, zuI_2, zuJ_1, zuJ_2, zuJ_3, zuP_1, zuP_2, zuP_3, zuC_1, zuC_2, reduceIte, Nat.reduceEqDiff, false_and, and_false, true_and, and_true, and_self, or_true, true_or, or_false, false_or]; omega))) (by decide) (by decide) ⟨Nat.zero_le _, Nat.zero_le _⟩ (Nat.le_of_ble_eq_true rfl) (fun G96 hp96 => ?_)
                obtain ⟨hz96, hq96⟩ := hp96
                try simp only [zuI_1, zuI_2, zuJ_1, zuJ_2, zuJ_3, zuP_1, zuP_2, zuP_3, zuC_1, zuC_2, reduceIte, Nat.reduceEqDiff, false_and, and_false, true_and, and_true, and_self, or_true, true_or, or_false, false_or] at hq96
                have hZ96 := hq96
                exact zs_vret (pc := 99) C hr hlk dX3_readJoint_99 ⟨by repeat (first | exact zsm_rf | assumption | refine zsm_C (by decide) ?_ | refine zsm_I (by decide) ?_ | refine zsm_J ?_ | refine zsm_c (by assumption) (by decide) ?_), by unfold sJoint sJB; (repeat' split) <;> first | assumption | (exfalso; omega) | exact (by repeat (first | assumption | apply QCw_407 | apply QCw_408 | apply QCw_406 | apply QCw_2037 | apply QCw_2036 | apply QCw_2038 | apply QCw_2039 | apply QCw_2040 | apply QCw_2041 | apply QCw_2042 | apply QCw_2043 | apply QCw_609 | apply QCw_610 | apply QCw_611 | apply QCw_612 | apply QCw_2016 | apply QCw_2017 | apply QCw_2014 | apply QCw_2015 | apply QCw_206 | apply QCw_207 | apply QCw_410 | apply QCw_411 | apply QCw_412 | apply QCw_413 | apply QCw_2025 | refine QC_g (by decide) ?_ | refine QC_sm (by assumption) (by decide) (by decide) ?_))⟩
              · skip
                refine zs_iconst (pc := 86) C dX3_readJoint_86 (by decide) ?_
                refine zs_goto (tgt := 91) (pc := 87) C dX3_readJoint_87 (by decide) ?_
                refine zs_putz (r := 413) (pc := 91) C dX3_readJoint_91 w_X3_175 f_4_13 rfl (r_413 0) (by omega) (by omega) ?_
                refine zs_aload_n (pc := 94) C dX3_readJoint_94 rfl ?_
                refine zs_iload_n (pc := 95) C dX3_readJoint_95 rfl ?_
                refine zVv1 (pc := 96) C dX3_readJoint_96 v_X3_200 (c_X3_pushF hX (by repeat (first | assumption | apply QCw_407 | apply QCw_408 | apply QCw_406 | apply QCw_2037 | apply QCw_2036 | apply QCw_2038 | apply QCw_2039 | apply QCw_2040 | apply QCw_2041 | apply QCw_2042 | apply QCw_2043 | apply QCw_609 | apply QCw_610 | apply QCw_611 | apply QCw_612 | apply QCw_2016 | apply QCw_2017 | apply QCw_2014 | apply QCw_2015 | apply QCw_206 | apply QCw_207 | apply QCw_410 | apply QCw_411 | apply QCw_412 | apply QCw_413 | apply QCw_2025 | refine QC_g (by decide) ?_ | refine QC_sm (by assumption) (by decide) (by decide) ?_)) (by first | omega | (simp only [zuI_1, zuI_2, zuJ_1, zuJ_2, zuJ_3, zuP_1, zuP_2, zuP_3, zuC_1, zuC_2, reduceIte, Nat.reduceEqDiff, false_and, and_false, true_and, and_true, and_self, or_true, true_or, or_false, false_or]; omega))) (by decide) (by decide) ⟨Nat.zero_le _, Nat.zero_le _⟩ (Nat.le_of_ble_eq_true rfl) (fun G96 hp96 => ?_)
                obtain ⟨hz96, hq96⟩ := hp96
                try simp only [zuI_1, zuI_2, zuJ_1, zuJ_2, zuJ_3, zuP_1, zuP_2, zuP_3, zuC_1, zuC_2, reduceIte, Nat.reduceEqDiff, false_and, and_false, true_and, and_true, and_self, or_true, true_or, or_false, false_or] at hq96
                have hZ96 := hq96
                exact zs_vret (pc := 99) C hr hlk dX3_readJoint_99 ⟨by repeat (first | exact zsm_rf | assumption | refine zsm_C (by decide) ?_ | refine zsm_I (by decide) ?_ | refine zsm_J ?_ | refine zsm_c (by assumption) (by decide) ?_), by unfold sJoint sJB; (repeat' split) <;> first | assumption | (exfalso; omega) | exact (by repeat (first | assumption | apply QCw_407 | apply QCw_408 | apply QCw_406 | apply QCw_2037 | apply QCw_2036 | apply QCw_2038 | apply QCw_2039 | apply QCw_2040 | apply QCw_2041 | apply QCw_2042 | apply QCw_2043 | apply QCw_609 | apply QCw_610 | apply QCw_611 | apply QCw_612 | apply QCw_2016 | apply QCw_2017 | apply QCw_2014 | apply QCw_2015 | apply QCw_206 | apply QCw_207 | apply QCw_410 | apply QCw_411 | apply QCw_412 | apply QCw_413 | apply QCw_2025 | refine QC_g (by decide) ?_ | refine QC_sm (by assumption) (by decide) (by decide) ?_))⟩
          · skip
            refine zs_aload_n (pc := 60) C dX3_readJoint_60 rfl ?_
            refine zs_iconst (pc := 61) C dX3_readJoint_61 (by decide) ?_
            refine zVv1 (pc := 62) C dX3_readJoint_62 v_X3_114 (c_X3_failF hX (by repeat (first | assumption | apply QCw_407 | apply QCw_408 | apply QCw_406 | apply QCw_2037 | apply QCw_2036 | apply QCw_2038 | apply QCw_2039 | apply QCw_2040 | apply QCw_2041 | apply QCw_2042 | apply QCw_2043 | apply QCw_609 | apply QCw_610 | apply QCw_611 | apply QCw_612 | apply QCw_2016 | apply QCw_2017 | apply QCw_2014 | apply QCw_2015 | apply QCw_206 | apply QCw_207 | apply QCw_410 | apply QCw_411 | apply QCw_412 | apply QCw_413 | apply QCw_2025 | refine QC_g (by decide) ?_ | refine QC_sm (by assumption) (by decide) (by decide) ?_))) (by decide) (by decide) ⟨Nat.zero_le _, Nat.zero_le _⟩ (Nat.le_of_ble_eq_true rfl) (fun G62 hp62 => ?_)
            obtain ⟨hz62, hq62⟩ := hp62
            have hZ62 := hq62
            refine zs_goto (tgt := 99) (pc := 65) C dX3_readJoint_65 (by decide) ?_
            exact zs_vret (pc := 99) C hr hlk dX3_readJoint_99 ⟨by repeat (first | exact zsm_rf | assumption | refine zsm_C (by decide) ?_ | refine zsm_I (by decide) ?_ | refine zsm_J ?_ | refine zsm_c (by assumption) (by decide) ?_), by unfold sJoint sJB; (repeat' split) <;> first | assumption | (exfalso; omega) | exact (by repeat (first | assumption | apply QCw_407 | apply QCw_408 | apply QCw_406 | apply QCw_2037 | apply QCw_2036 | apply QCw_2038 | apply QCw_2039 | apply QCw_2040 | apply QCw_2041 | apply QCw_2042 | apply QCw_2043 | apply QCw_609 | apply QCw_610 | apply QCw_611 | apply QCw_612 | apply QCw_2016 | apply QCw_2017 | apply QCw_2014 | apply QCw_2015 | apply QCw_206 | apply QCw_207 | apply QCw_410 | apply QCw_411 | apply QCw_412 | apply QCw_413 | apply QCw_2025 | refine QC_g (by decide) ?_ | refine QC_sm (by assumption) (by decide) (by decide) ?_))⟩
  · skip
    refine zs_iconst (pc := 11) C dX3_readJoint_11 (by decide) ?_
    refine zs_goto (tgt := 16) (pc := 12) C dX3_readJoint_12 (by decide) ?_
    refine zs_istore_n (pc := 16) C dX3_readJoint_16 (by decide) ?_
    dsimp only [zset, zclr, znone]
    refine zs_aload_n (pc := 17) C dX3_readJoint_17 rfl ?_
    refine zs_iload_n (pc := 18) C dX3_readJoint_18 rfl ?_
    refine zs_if_eq (tgt := 26) (pc := 19) C dX3_readJoint_19 (by decide) (fun h19 => ?_) (fun h19 => ?_)
    · skip
      refine zs_iload_n (pc := 26) C dX3_readJoint_26 rfl ?_
      refine zVv1 (pc := 27) C dX3_readJoint_27 v_X3_188 (c_X3_releaseF hX (by repeat (first | assumption | apply QCw_407 | apply QCw_408 | apply QCw_406 | apply QCw_2037 | apply QCw_2036 | apply QCw_2038 | apply QCw_2039 | apply QCw_2040 | apply QCw_2041 | apply QCw_2042 | apply QCw_2043 | apply QCw_609 | apply QCw_610 | apply QCw_611 | apply QCw_612 | apply QCw_2016 | apply QCw_2017 | apply QCw_2014 | apply QCw_2015 | apply QCw_206 | apply QCw_207 | apply QCw_410 | apply QCw_411 | apply QCw_412 | apply QCw_413 | apply QCw_2025 | refine QC_g (by decide) ?_ | refine QC_sm (by assumption) (by decide) (by decide) ?_))) (by decide) (by decide) ⟨Nat.zero_le _, Nat.zero_le _⟩ (Nat.le_of_ble_eq_true rfl) (fun G27 hp27 => ?_)
      obtain ⟨hz27, hq27⟩ := hp27
      have hZ27 := hq27
      first | (have hJ : sRel 5 A = sJR k A := (by unfold sJR; rw [if_pos (by omega)]); rw [hJ] at hZ27) | (have hJ : sRel (bnd k) A = sJR k A := (by unfold sJR; rw [if_neg (by omega)]); rw [hJ] at hZ27) | skip
      refine zs_iload_n (pc := 30) C dX3_readJoint_30 rfl ?_
      refine zs_if_eq (tgt := 68) (pc := 31) C dX3_readJoint_31 (by decide) (fun h31 => ?_) (fun h31 => ?_)
      · skip
        refine zs_aload_n (pc := 68) C dX3_readJoint_68 rfl ?_
        refine zVi0 (pc := 69) C dX3_readJoint_69 v_X3_197 (c_X3_countKnotF hX (by repeat (first | assumption | apply QCw_407 | apply QCw_408 | apply QCw_406 | apply QCw_2037 | apply QCw_2036 | apply QCw_2038 | apply QCw_2039 | apply QCw_2040 | apply QCw_2041 | apply QCw_2042 | apply QCw_2043 | apply QCw_609 | apply QCw_610 | apply QCw_611 | apply QCw_612 | apply QCw_2016 | apply QCw_2017 | apply QCw_2014 | apply QCw_2015 | apply QCw_206 | apply QCw_207 | apply QCw_410 | apply QCw_411 | apply QCw_412 | apply QCw_413 | apply QCw_2025 | refine QC_g (by decide) ?_ | refine QC_sm (by assumption) (by decide) (by decide) ?_))) (by decide) (by decide) ⟨Nat.zero_le _, Nat.zero_le _⟩ (Nat.le_of_ble_eq_true rfl) (fun x69 G69 l69 u69 hp69 => ?_)
        obtain ⟨hz69, hq69⟩ := hp69
        have hZ69 := hq69.1
        have hX69 := hq69.2
        refine zs_if_eq (tgt := 99) (pc := 72) C dX3_readJoint_72 (by decide) (fun h72 => ?_) (fun h72 => ?_)
        · skip
          exact zs_vret (pc := 99) C hr hlk dX3_readJoint_99 ⟨by repeat (first | exact zsm_rf | assumption | refine zsm_C (by decide) ?_ | refine zsm_I (by decide) ?_ | refine zsm_J ?_ | refine zsm_c (by assumption) (by decide) ?_), by unfold sJoint sJB; (repeat' split) <;> first | assumption | (exfalso; omega) | exact (by repeat (first | assumption | apply QCw_407 | apply QCw_408 | apply QCw_406 | apply QCw_2037 | apply QCw_2036 | apply QCw_2038 | apply QCw_2039 | apply QCw_2040 | apply QCw_2041 | apply QCw_2042 | apply QCw_2043 | apply QCw_609 | apply QCw_610 | apply QCw_611 | apply QCw_612 | apply QCw_2016 | apply QCw_2017 | apply QCw_2014 | apply QCw_2015 | apply QCw_206 | apply QCw_207 | apply QCw_410 | apply QCw_411 | apply QCw_412 | apply QCw_413 | apply QCw_2025 | refine QC_g (by decide) ?_ | refine QC_sm (by assumption) (by decide) (by decide) ?_))⟩
        · skip
          refine zs_aload_n (pc := 75) C dX3_readJoint_75 rfl ?_
          refine zs_iconst (pc := 76) C dX3_readJoint_76 (by decide) ?_
          refine zs_putz (r := 412) (pc := 77) C dX3_readJoint_77 w_X3_171 f_4_12 rfl (r_412 0) (by omega) (by omega) ?_
          refine zs_aload_n (pc := 80) C dX3_readJoint_80 rfl ?_
          refine zs_iload_n (pc := 81) C dX3_readJoint_81 rfl ?_
          refine zs_iconst (pc := 82) C dX3_readJoint_82 (by decide) ?_
          refine zs_icmp_ge (tgt := 90) (pc := 83) C dX3_readJoint_83 (by decide) (fun h83 => ?_) (fun h83 => ?_)
          · skip
            refine zs_iconst (pc := 90) C dX3_readJoint_90 (by decide) ?_
            refine zs_putz (r := 413) (pc := 91) C dX3_readJoint_91 w_X3_175 f_4_13 rfl (r_413 0) (by omega) (by omega) ?_
            refine zs_aload_n (pc := 94) C dX3_readJoint_94 rfl ?_
            refine zs_iload_n (pc := 95) C dX3_readJoint_95 rfl ?_
            refine zVv1 (pc := 96) C dX3_readJoint_96 v_X3_200 (c_X3_pushF hX (by repeat (first | assumption | apply QCw_407 | apply QCw_408 | apply QCw_406 | apply QCw_2037 | apply QCw_2036 | apply QCw_2038 | apply QCw_2039 | apply QCw_2040 | apply QCw_2041 | apply QCw_2042 | apply QCw_2043 | apply QCw_609 | apply QCw_610 | apply QCw_611 | apply QCw_612 | apply QCw_2016 | apply QCw_2017 | apply QCw_2014 | apply QCw_2015 | apply QCw_206 | apply QCw_207 | apply QCw_410 | apply QCw_411 | apply QCw_412 | apply QCw_413 | apply QCw_2025 | refine QC_g (by decide) ?_ | refine QC_sm (by assumption) (by decide) (by decide) ?_)) (by first | omega | (simp only [zuI_1, zuI_2, zuJ_1, zuJ_2, zuJ_3, zuP_1, zuP_2, zuP_3, zuC_1, zuC_2, reduceIte, Nat.reduceEqDiff, false_and, and_false, true_and, and_true, and_self, or_true, true_or, or_false, false_or]; omega))) (by decide) (by decide) ⟨Nat.zero_le _, Nat.zero_le _⟩ (Nat.le_of_ble_eq_true rfl) (fun G96 hp96 => ?_)
            obtain ⟨hz96, hq96⟩ := hp96
            try simp only [zuI_1, zuI_2, zuJ_1, zuJ_2, zuJ_3, zuP_1, zuP_2, zuP_3, zuC_1, zuC_2, reduceIte, Nat.reduceEqDiff, false_and, and_false, true_and, and_true, and_self, or_true, true_or, or_false, false_or] at hq96
            have hZ96 := hq96
            exact zs_vret (pc := 99) C hr hlk dX3_readJoint_99 ⟨by repeat (first | exact zsm_rf | assumption | refine zsm_C (by decide) ?_ | refine zsm_I (by decide) ?_ | refine zsm_J ?_ | refine zsm_c (by assumption) (by decide) ?_), by unfold sJoint sJB; (repeat' split) <;> first | assumption | (exfalso; omega) | exact (by repeat (first | assumption | apply QCw_407 | apply QCw_408 | apply QCw_406 | apply QCw_2037 | apply QCw_2036 | apply QCw_2038 | apply QCw_2039 | apply QCw_2040 | apply QCw_2041 | apply QCw_2042 | apply QCw_2043 | apply QCw_609 | apply QCw_610 | apply QCw_611 | apply QCw_612 | apply QCw_2016 | apply QCw_2017 | apply QCw_2014 | apply QCw_2015 | apply QCw_206 | apply QCw_207 | apply QCw_410 | apply QCw_411 | apply QCw_412 | apply QCw_413 | apply QCw_2025 | refine QC_g (by decide) ?_ | refine QC_sm (by assumption) (by decide) (by decide) ?_))⟩
          · skip
            refine zs_iconst (pc := 86) C dX3_readJoint_86 (by decide) ?_
            refine zs_goto (tgt := 91) (pc := 87) C dX3_readJoint_87 (by decide) ?_
            refine zs_putz (r := 413) (pc := 91) C dX3_readJoint_91 w_X3_175 f_4_13 rfl (r_413 0) (by omega) (by omega) ?_
            refine zs_aload_n (pc := 94) C dX3_readJoint_94 rfl ?_
            refine zs_iload_n (pc := 95) C dX3_readJoint_95 rfl ?_
            refine zVv1 (pc := 96) C dX3_readJoint_96 v_X3_200 (c_X3_pushF hX (by repeat (first | assumption | apply QCw_407 | apply QCw_408 | apply QCw_406 | apply QCw_2037 | apply QCw_2036 | apply QCw_2038 | apply QCw_2039 | apply QCw_2040 | apply QCw_2041 | apply QCw_2042 | apply QCw_2043 | apply QCw_609 | apply QCw_610 | apply QCw_611 | apply QCw_612 | apply QCw_2016 | apply QCw_2017 | apply QCw_2014 | apply QCw_2015 | apply QCw_206 | apply QCw_207 | apply QCw_410 | apply QCw_411 | apply QCw_412 | apply QCw_413 | apply QCw_2025 | refine QC_g (by decide) ?_ | refine QC_sm (by assumption) (by decide) (by decide) ?_)) (by first | omega | (simp only [zuI_1, zuI_2, zuJ_1, zuJ_2, zuJ_3, zuP_1, zuP_2, zuP_3, zuC_1, zuC_2, reduceIte, Nat.reduceEqDiff, false_and, and_false, true_and, and_true, and_self, or_true, true_or, or_false, false_or]; omega))) (by decide) (by decide) ⟨Nat.zero_le _, Nat.zero_le _⟩ (Nat.le_of_ble_eq_true rfl) (fun G96 hp96 => ?_)
            obtain ⟨hz96, hq96⟩ := hp96
            try simp only [zuI_1, zuI_2, zuJ_1, zuJ_2, zuJ_3, zuP_1, zuP_2, zuP_3, zuC_1, zuC_2, reduceIte, Nat.reduceEqDiff, false_and, and_false, true_and, and_true, and_self, or_true, true_or, or_false, false_or] at hq96
            have hZ96 := hq96
            exact zs_vret (pc := 99) C hr hlk dX3_readJoint_99 ⟨by repeat (first | exact zsm_rf | assumption | refine zsm_C (by decide) ?_ | refine zsm_I (by decide) ?_ | refine zsm_J ?_ | refine zsm_c (by assumption) (by decide) ?_), by unfold sJoint sJB; (repeat' split) <;> first | assumption | (exfalso; omega) | exact (by repeat (first | assumption | apply QCw_407 | apply QCw_408 | apply QCw_406 | apply QCw_2037 | apply QCw_2036 | apply QCw_2038 | apply QCw_2039 | apply QCw_2040 | apply QCw_2041 | apply QCw_2042 | apply QCw_2043 | apply QCw_609 | apply QCw_610 | apply QCw_611 | apply QCw_612 | apply QCw_2016 | apply QCw_2017 | apply QCw_2014 | apply QCw_2015 | apply QCw_206 | apply QCw_207 | apply QCw_410 | apply QCw_411 | apply QCw_412 | apply QCw_413 | apply QCw_2025 | refine QC_g (by decide) ?_ | refine QC_sm (by assumption) (by decide) (by decide) ?_))⟩
      · skip
        refine zs_aload_n (pc := 34) C dX3_readJoint_34 rfl ?_
        refine zs_geti (r := 410) (pc := 35) C dX3_readJoint_35 w_X3_165 f_4_10 rfl (r_410 0) (fun v35 e35 l35 u35 => ?_)
        try simp only [QC_410 hZ27, QC_410 hZ] at e35
        try subst v35
        refine zs_if_le (tgt := 68) (pc := 38) C dX3_readJoint_38 (by decide) (fun h38 => ?_) (fun h38 => ?_)
        · skip
          refine zs_aload_n (pc := 68) C dX3_readJoint_68 rfl ?_
          refine zVi0 (pc := 69) C dX3_readJoint_69 v_X3_197 (c_X3_countKnotF hX (by repeat (first | assumption | apply QCw_407 | apply QCw_408 | apply QCw_406 | apply QCw_2037 | apply QCw_2036 | apply QCw_2038 | apply QCw_2039 | apply QCw_2040 | apply QCw_2041 | apply QCw_2042 | apply QCw_2043 | apply QCw_609 | apply QCw_610 | apply QCw_611 | apply QCw_612 | apply QCw_2016 | apply QCw_2017 | apply QCw_2014 | apply QCw_2015 | apply QCw_206 | apply QCw_207 | apply QCw_410 | apply QCw_411 | apply QCw_412 | apply QCw_413 | apply QCw_2025 | refine QC_g (by decide) ?_ | refine QC_sm (by assumption) (by decide) (by decide) ?_))) (by decide) (by decide) ⟨Nat.zero_le _, Nat.zero_le _⟩ (Nat.le_of_ble_eq_true rfl) (fun x69 G69 l69 u69 hp69 => ?_)
          obtain ⟨hz69, hq69⟩ := hp69
          have hZ69 := hq69.1
          have hX69 := hq69.2
          refine zs_if_eq (tgt := 99) (pc := 72) C dX3_readJoint_72 (by decide) (fun h72 => ?_) (fun h72 => ?_)
          · skip
            exact zs_vret (pc := 99) C hr hlk dX3_readJoint_99 ⟨by repeat (first | exact zsm_rf | assumption | refine zsm_C (by decide) ?_ | refine zsm_I (by decide) ?_ | refine zsm_J ?_ | refine zsm_c (by assumption) (by decide) ?_), by unfold sJoint sJB; (repeat' split) <;> first | assumption | (exfalso; omega) | exact (by repeat (first | assumption | apply QCw_407 | apply QCw_408 | apply QCw_406 | apply QCw_2037 | apply QCw_2036 | apply QCw_2038 | apply QCw_2039 | apply QCw_2040 | apply QCw_2041 | apply QCw_2042 | apply QCw_2043 | apply QCw_609 | apply QCw_610 | apply QCw_611 | apply QCw_612 | apply QCw_2016 | apply QCw_2017 | apply QCw_2014 | apply QCw_2015 | apply QCw_206 | apply QCw_207 | apply QCw_410 | apply QCw_411 | apply QCw_412 | apply QCw_413 | apply QCw_2025 | refine QC_g (by decide) ?_ | refine QC_sm (by assumption) (by decide) (by decide) ?_))⟩
          · skip
            refine zs_aload_n (pc := 75) C dX3_readJoint_75 rfl ?_
            refine zs_iconst (pc := 76) C dX3_readJoint_76 (by decide) ?_
            refine zs_putz (r := 412) (pc := 77) C dX3_readJoint_77 w_X3_171 f_4_12 rfl (r_412 0) (by omega) (by omega) ?_
            refine zs_aload_n (pc := 80) C dX3_readJoint_80 rfl ?_
            refine zs_iload_n (pc := 81) C dX3_readJoint_81 rfl ?_
            refine zs_iconst (pc := 82) C dX3_readJoint_82 (by decide) ?_
            refine zs_icmp_ge (tgt := 90) (pc := 83) C dX3_readJoint_83 (by decide) (fun h83 => ?_) (fun h83 => ?_)
            · skip
              refine zs_iconst (pc := 90) C dX3_readJoint_90 (by decide) ?_
              refine zs_putz (r := 413) (pc := 91) C dX3_readJoint_91 w_X3_175 f_4_13 rfl (r_413 0) (by omega) (by omega) ?_
              refine zs_aload_n (pc := 94) C dX3_readJoint_94 rfl ?_
              refine zs_iload_n (pc := 95) C dX3_readJoint_95 rfl ?_
              refine zVv1 (pc := 96) C dX3_readJoint_96 v_X3_200 (c_X3_pushF hX (by repeat (first | assumption | apply QCw_407 | apply QCw_408 | apply QCw_406 | apply QCw_2037 | apply QCw_2036 | apply QCw_2038 | apply QCw_2039 | apply QCw_2040 | apply QCw_2041 | apply QCw_2042 | apply QCw_2043 | apply QCw_609 | apply QCw_610 | apply QCw_611 | apply QCw_612 | apply QCw_2016 | apply QCw_2017 | apply QCw_2014 | apply QCw_2015 | apply QCw_206 | apply QCw_207 | apply QCw_410 | apply QCw_411 | apply QCw_412 | apply QCw_413 | apply QCw_2025 | refine QC_g (by decide) ?_ | refine QC_sm (by assumption) (by decide) (by decide) ?_)) (by first | omega | (simp only [zuI_1, zuI_2, zuJ_1, zuJ_2, zuJ_3, zuP_1, zuP_2, zuP_3, zuC_1, zuC_2, reduceIte, Nat.reduceEqDiff, false_and, and_false, true_and, and_true, and_self, or_true, true_or, or_false, false_or]; omega))) (by decide) (by decide) ⟨Nat.zero_le _, Nat.zero_le _⟩ (Nat.le_of_ble_eq_true rfl) (fun G96 hp96 => ?_)
              obtain ⟨hz96, hq96⟩ := hp96
              try simp only [zuI_1, zuI_2, zuJ_1, zuJ_2, zuJ_3, zuP_1, zuP_2, zuP_3, zuC_1, zuC_2, reduceIte, Nat.reduceEqDiff, false_and, and_false, true_and, and_true, and_self, or_true, true_or, or_false, false_or] at hq96
              have hZ96 := hq96
              exact zs_vret (pc := 99) C hr hlk dX3_readJoint_99 ⟨by repeat (first | exact zsm_rf | assumption | refine zsm_C (by decide) ?_ | refine zsm_I (by decide) ?_ | refine zsm_J ?_ | refine zsm_c (by assumption) (by decide) ?_), by unfold sJoint sJB; (repeat' split) <;> first | assumption | (exfalso; omega) | exact (by repeat (first | assumption | apply QCw_407 | apply QCw_408 | apply QCw_406 | apply QCw_2037 | apply QCw_2036 | apply QCw_2038 | apply QCw_2039 | apply QCw_2040 | apply QCw_2041 | apply QCw_2042 | apply QCw_2043 | apply QCw_609 | apply QCw_610 | apply QCw_611 | apply QCw_612 | apply QCw_2016 | apply QCw_2017 | apply QCw_2014 | apply QCw_2015 | apply QCw_206 | apply QCw_207 | apply QCw_410 | apply QCw_411 | apply QCw_412 | apply QCw_413 | apply QCw_2025 | refine QC_g (by decide) ?_ | refine QC_sm (by assumption) (by decide) (by decide) ?_))⟩
            · skip
              refine zs_iconst (pc := 86) C dX3_readJoint_86 (by decide) ?_
              refine zs_goto (tgt := 91) (pc := 87) C dX3_readJoint_87 (by decide) ?_
              refine zs_putz (r := 413) (pc := 91) C dX3_readJoint_91 w_X3_175 f_4_13 rfl (r_413 0) (by omega) (by omega) ?_
              refine zs_aload_n (pc := 94) C dX3_readJoint_94 rfl ?_
              refine zs_iload_n (pc := 95) C dX3_readJoint_95 rfl ?_
              refine zVv1 (pc := 96) C dX3_readJoint_96 v_X3_200 (c_X3_pushF hX (by repeat (first | assumption | apply QCw_407 | apply QCw_408 | apply QCw_406 | apply QCw_2037 | apply QCw_2036 | apply QCw_2038 | apply QCw_2039 | apply QCw_2040 | apply QCw_2041 | apply QCw_2042 | apply QCw_2043 | apply QCw_609 | apply QCw_610 | apply QCw_611 | apply QCw_612 | apply QCw_2016 | apply QCw_2017 | apply QCw_2014 | apply QCw_2015 | apply QCw_206 | apply QCw_207 | apply QCw_410 | apply QCw_411 | apply QCw_412 | apply QCw_413 | apply QCw_2025 | refine QC_g (by decide) ?_ | refine QC_sm (by assumption) (by decide) (by decide) ?_)) (by first | omega | (simp only [zuI_1, zuI_2, zuJ_1, zuJ_2, zuJ_3, zuP_1, zuP_2, zuP_3, zuC_1, zuC_2, reduceIte, Nat.reduceEqDiff, false_and, and_false, true_and, and_true, and_self, or_true, true_or, or_false, false_or]; omega))) (by decide) (by decide) ⟨Nat.zero_le _, Nat.zero_le _⟩ (Nat.le_of_ble_eq_true rfl) (fun G96 hp96 => ?_)
              obtain ⟨hz96, hq96⟩ := hp96
              try simp only [zuI_1, zuI_2, zuJ_1, zuJ_2, zuJ_3, zuP_1, zuP_2, zuP_3, zuC_1, zuC_2, reduceIte, Nat.reduceEqDiff, false_and, and_false, true_and, and_true, and_self, or_true, true_or, or_false, false_or] at hq96
              have hZ96 := hq96
              exact zs_vret (pc := 99) C hr hlk dX3_readJoint_99 ⟨by repeat (first | exact zsm_rf | assumption | refine zsm_C (by decide) ?_ | refine zsm_I (by decide) ?_ | refine zsm_J ?_ | refine zsm_c (by assumption) (by decide) ?_), by unfold sJoint sJB; (repeat' split) <;> first | assumption | (exfalso; omega) | exact (by repeat (first | assumption | apply QCw_407 | apply QCw_408 | apply QCw_406 | apply QCw_2037 | apply QCw_2036 | apply QCw_2038 | apply QCw_2039 | apply QCw_2040 | apply QCw_2041 | apply QCw_2042 | apply QCw_2043 | apply QCw_609 | apply QCw_610 | apply QCw_611 | apply QCw_612 | apply QCw_2016 | apply QCw_2017 | apply QCw_2014 | apply QCw_2015 | apply QCw_206 | apply QCw_207 | apply QCw_410 | apply QCw_411 | apply QCw_412 | apply QCw_413 | apply QCw_2025 | refine QC_g (by decide) ?_ | refine QC_sm (by assumption) (by decide) (by decide) ?_))⟩
        · skip
          refine zs_binds (pc := 41) C dX3_readJoint_41 q_X3_220 ?_
          refine zs_aload_n (pc := 44) C dX3_readJoint_44 rfl ?_
          refine zs_getf (pc := 45) C dX3_readJoint_45 w_X3_27 f_4_9 (by decide) ?_
          refine zs_aload_n (pc := 48) C dX3_readJoint_48 rfl ?_
          refine zs_geti (r := 410) (pc := 49) C dX3_readJoint_49 w_X3_165 f_4_10 rfl (r_410 0) (fun v49 e49 l49 u49 => ?_)
          try simp only [QC_410 hZ27, QC_410 hZ] at e49
          try subst v49
          refine zs_iconst (pc := 52) C dX3_readJoint_52 (by decide) ?_
          first | refine zs_isub (pc := 53) C dX3_readJoint_53 (by omega) ?_ | refine zs_isubF (pc := 53) C dX3_readJoint_53 (fun z53 hz531 hz532 => ?_)
          refine zs_iald (r := 2025) (pc := 54) C dX3_readJoint_54 a_25 (by decide) (by omega) rfl (r_2025 _) (fun v54 e54 l54 u54 => ?_)
          try simp only [QC_2025 hZ27, QC_2025 hZ] at e54
          try subst v54
          refine zs_xald (pc := 55) C 1 dX3_readJoint_55 (by decide) rfl (by have := hX.1; have := hX.2.1; omega) (fun v55 e55 l55 u55 => ?_)
          first | (have hb55 := hX.2.2.2 ((sJR k A) 26 ((sJR k A) 22 0 - 1).toNat).toNat (by omega); have hc55 : v55 = bnd ((sJR k A) 26 ((sJR k A) 22 0 - 1).toNat) := e55.trans hb55; subst hc55) | skip
          refine zs_iconst (pc := 56) C dX3_readJoint_56 (by decide) ?_
          refine zs_icmp_ne (tgt := 68) (pc := 57) C dX3_readJoint_57 (by decide) (fun h57 => ?_) (fun h57 => ?_)
          · skip
            refine zs_aload_n (pc := 68) C dX3_readJoint_68 rfl ?_
            refine zVi0 (pc := 69) C dX3_readJoint_69 v_X3_197 (c_X3_countKnotF hX (by repeat (first | assumption | apply QCw_407 | apply QCw_408 | apply QCw_406 | apply QCw_2037 | apply QCw_2036 | apply QCw_2038 | apply QCw_2039 | apply QCw_2040 | apply QCw_2041 | apply QCw_2042 | apply QCw_2043 | apply QCw_609 | apply QCw_610 | apply QCw_611 | apply QCw_612 | apply QCw_2016 | apply QCw_2017 | apply QCw_2014 | apply QCw_2015 | apply QCw_206 | apply QCw_207 | apply QCw_410 | apply QCw_411 | apply QCw_412 | apply QCw_413 | apply QCw_2025 | refine QC_g (by decide) ?_ | refine QC_sm (by assumption) (by decide) (by decide) ?_))) (by decide) (by decide) ⟨Nat.zero_le _, Nat.zero_le _⟩ (Nat.le_of_ble_eq_true rfl) (fun x69 G69 l69 u69 hp69 => ?_)
            obtain ⟨hz69, hq69⟩ := hp69
            have hZ69 := hq69.1
            have hX69 := hq69.2
            refine zs_if_eq (tgt := 99) (pc := 72) C dX3_readJoint_72 (by decide) (fun h72 => ?_) (fun h72 => ?_)
            · skip
              exact zs_vret (pc := 99) C hr hlk dX3_readJoint_99 ⟨by repeat (first | exact zsm_rf | assumption | refine zsm_C (by decide) ?_ | refine zsm_I (by decide) ?_ | refine zsm_J ?_ | refine zsm_c (by assumption) (by decide) ?_), by unfold sJoint sJB; (repeat' split) <;> first | assumption | (exfalso; omega) | exact (by repeat (first | assumption | apply QCw_407 | apply QCw_408 | apply QCw_406 | apply QCw_2037 | apply QCw_2036 | apply QCw_2038 | apply QCw_2039 | apply QCw_2040 | apply QCw_2041 | apply QCw_2042 | apply QCw_2043 | apply QCw_609 | apply QCw_610 | apply QCw_611 | apply QCw_612 | apply QCw_2016 | apply QCw_2017 | apply QCw_2014 | apply QCw_2015 | apply QCw_206 | apply QCw_207 | apply QCw_410 | apply QCw_411 | apply QCw_412 | apply QCw_413 | apply QCw_2025 | refine QC_g (by decide) ?_ | refine QC_sm (by assumption) (by decide) (by decide) ?_))⟩
            · skip
              refine zs_aload_n (pc := 75) C dX3_readJoint_75 rfl ?_
              refine zs_iconst (pc := 76) C dX3_readJoint_76 (by decide) ?_
              refine zs_putz (r := 412) (pc := 77) C dX3_readJoint_77 w_X3_171 f_4_12 rfl (r_412 0) (by omega) (by omega) ?_
              refine zs_aload_n (pc := 80) C dX3_readJoint_80 rfl ?_
              refine zs_iload_n (pc := 81) C dX3_readJoint_81 rfl ?_
              refine zs_iconst (pc := 82) C dX3_readJoint_82 (by decide) ?_
              refine zs_icmp_ge (tgt := 90) (pc := 83) C dX3_readJoint_83 (by decide) (fun h83 => ?_) (fun h83 => ?_)
              · skip
                refine zs_iconst (pc := 90) C dX3_readJoint_90 (by decide) ?_
                refine zs_putz (r := 413) (pc := 91) C dX3_readJoint_91 w_X3_175 f_4_13 rfl (r_413 0) (by omega) (by omega) ?_
                refine zs_aload_n (pc := 94) C dX3_readJoint_94 rfl ?_
                refine zs_iload_n (pc := 95) C dX3_readJoint_95 rfl ?_
                refine zVv1 (pc := 96) C dX3_readJoint_96 v_X3_200 (c_X3_pushF hX (by repeat (first | assumption | apply QCw_407 | apply QCw_408 | apply QCw_406 | apply QCw_2037 | apply QCw_2036 | apply QCw_2038 | apply QCw_2039 | apply QCw_2040 | apply QCw_2041 | apply QCw_2042 | apply QCw_2043 | apply QCw_609 | apply QCw_610 | apply QCw_611 | apply QCw_612 | apply QCw_2016 | apply QCw_2017 | apply QCw_2014 | apply QCw_2015 | apply QCw_206 | apply QCw_207 | apply QCw_410 | apply QCw_411 | apply QCw_412 | apply QCw_413 | apply QCw_2025 | refine QC_g (by decide) ?_ | refine QC_sm (by assumption) (by decide) (by decide) ?_)) (by first | omega | (simp only [zuI_1, zuI_2, zuJ_1, zuJ_2, zuJ_3, zuP_1, zuP_2, zuP_3, zuC_1, zuC_2, reduceIte, Nat.reduceEqDiff, false_and, and_false, true_and, and_true, and_self, or_true, true_or, or_false, false_or]; omega))) (by decide) (by decide) ⟨Nat.zero_le _, Nat.zero_le _⟩ (Nat.le_of_ble_eq_true rfl) (fun G96 hp96 => ?_)
                obtain ⟨hz96, hq96⟩ := hp96
                try simp only [zuI_1, zuI_2, zuJ_1, zuJ_2, zuJ_3, zuP_1, zuP_2, zuP_3, zuC_1, zuC_2, reduceIte, Nat.reduceEqDiff, false_and, and_false, true_and, and_true, and_self, or_true, true_or, or_false, false_or] at hq96
                have hZ96 := hq96
                exact zs_vret (pc := 99) C hr hlk dX3_readJoint_99 ⟨by repeat (first | exact zsm_rf | assumption | refine zsm_C (by decide) ?_ | refine zsm_I (by decide) ?_ | refine zsm_J ?_ | refine zsm_c (by assumption) (by decide) ?_), by unfold sJoint sJB; (repeat' split) <;> first | assumption | (exfalso; omega) | exact (by repeat (first | assumption | apply QCw_407 | apply QCw_408 | apply QCw_406 | apply QCw_2037 | apply QCw_2036 | apply QCw_2038 | apply QCw_2039 | apply QCw_2040 | apply QCw_2041 | apply QCw_2042 | apply QCw_2043 | apply QCw_609 | apply QCw_610 | apply QCw_611 | apply QCw_612 | apply QCw_2016 | apply QCw_2017 | apply QCw_2014 | apply QCw_2015 | apply QCw_206 | apply QCw_207 | apply QCw_410 | apply QCw_411 | apply QCw_412 | apply QCw_413 | apply QCw_2025 | refine QC_g (by decide) ?_ | refine QC_sm (by assumption) (by decide) (by decide) ?_))⟩
              · skip
                refine zs_iconst (pc := 86) C dX3_readJoint_86 (by decide) ?_
                refine zs_goto (tgt := 91) (pc := 87) C dX3_readJoint_87 (by decide) ?_
                refine zs_putz (r := 413) (pc := 91) C dX3_readJoint_91 w_X3_175 f_4_13 rfl (r_413 0) (by omega) (by omega) ?_
                refine zs_aload_n (pc := 94) C dX3_readJoint_94 rfl ?_
                refine zs_iload_n (pc := 95) C dX3_readJoint_95 rfl ?_
                refine zVv1 (pc := 96) C dX3_readJoint_96 v_X3_200 (c_X3_pushF hX (by repeat (first | assumption | apply QCw_407 | apply QCw_408 | apply QCw_406 | apply QCw_2037 | apply QCw_2036 | apply QCw_2038 | apply QCw_2039 | apply QCw_2040 | apply QCw_2041 | apply QCw_2042 | apply QCw_2043 | apply QCw_609 | apply QCw_610 | apply QCw_611 | apply QCw_612 | apply QCw_2016 | apply QCw_2017 | apply QCw_2014 | apply QCw_2015 | apply QCw_206 | apply QCw_207 | apply QCw_410 | apply QCw_411 | apply QCw_412 | apply QCw_413 | apply QCw_2025 | refine QC_g (by decide) ?_ | refine QC_sm (by assumption) (by decide) (by decide) ?_)) (by first | omega | (simp only [zuI_1, zuI_2, zuJ_1, zuJ_2, zuJ_3, zuP_1, zuP_2, zuP_3, zuC_1, zuC_2, reduceIte, Nat.reduceEqDiff, false_and, and_false, true_and, and_true, and_self, or_true, true_or, or_false, false_or]; omega))) (by decide) (by decide) ⟨Nat.zero_le _, Nat.zero_le _⟩ (Nat.le_of_ble_eq_true rfl) (fun G96 hp96 => ?_)
                obtain ⟨hz96, hq96⟩ := hp96
                try simp only [zuI_1, zuI_2, zuJ_1, zuJ_2, zuJ_3, zuP_1, zuP_2, zuP_3, zuC_1, zuC_2, reduceIte, Nat.reduceEqDiff, false_and, and_false, true_and, and_true, and_self, or_true, true_or, or_false, false_or] at hq96
                have hZ96 := hq96
                exact zs_vret (pc := 99) C hr hlk dX3_readJoint_99 ⟨by repeat (first | exact zsm_rf | assumption | refine zsm_C (by decide) ?_ | refine zsm_I (by decide) ?_ | refine zsm_J ?_ | refine zsm_c (by assumption) (by decide) ?_), by unfold sJoint sJB; (repeat' split) <;> first | assumption | (exfalso; omega) | exact (by repeat (first | assumption | apply QCw_407 | apply QCw_408 | apply QCw_406 | apply QCw_2037 | apply QCw_2036 | apply QCw_2038 | apply QCw_2039 | apply QCw_2040 | apply QCw_2041 | apply QCw_2042 | apply QCw_2043 | apply QCw_609 | apply QCw_610 | apply QCw_611 | apply QCw_612 | apply QCw_2016 | apply QCw_2017 | apply QCw_2014 | apply QCw_2015 | apply QCw_206 | apply QCw_207 | apply QCw_410 | apply QCw_411 | apply QCw_412 | apply QCw_413 | apply QCw_2025 | refine QC_g (by decide) ?_ | refine QC_sm (by assumption) (by decide) (by decide) ?_))⟩
          · skip
            refine zs_aload_n (pc := 60) C dX3_readJoint_60 rfl ?_
            refine zs_iconst (pc := 61) C dX3_readJoint_61 (by decide) ?_
            refine zVv1 (pc := 62) C dX3_readJoint_62 v_X3_114 (c_X3_failF hX (by repeat (first | assumption | apply QCw_407 | apply QCw_408 | apply QCw_406 | apply QCw_2037 | apply QCw_2036 | apply QCw_2038 | apply QCw_2039 | apply QCw_2040 | apply QCw_2041 | apply QCw_2042 | apply QCw_2043 | apply QCw_609 | apply QCw_610 | apply QCw_611 | apply QCw_612 | apply QCw_2016 | apply QCw_2017 | apply QCw_2014 | apply QCw_2015 | apply QCw_206 | apply QCw_207 | apply QCw_410 | apply QCw_411 | apply QCw_412 | apply QCw_413 | apply QCw_2025 | refine QC_g (by decide) ?_ | refine QC_sm (by assumption) (by decide) (by decide) ?_))) (by decide) (by decide) ⟨Nat.zero_le _, Nat.zero_le _⟩ (Nat.le_of_ble_eq_true rfl) (fun G62 hp62 => ?_)
            obtain ⟨hz62, hq62⟩ := hp62
            have hZ62 := hq62
            refine zs_goto (tgt := 99) (pc := 65) C dX3_readJoint_65 (by decide) ?_
            exact zs_vret (pc := 99) C hr hlk dX3_readJoint_99 ⟨by repeat (first | exact zsm_rf | assumption | refine zsm_C (by decide) ?_ | refine zsm_I (by decide) ?_ | refine zsm_J ?_ | refine zsm_c (by assumption) (by decide) ?_), by unfold sJoint sJB; (repeat' split) <;> first | assumption | (exfalso; omega) | exact (by repeat (first | assumption | apply QCw_407 | apply QCw_408 | apply QCw_406 | apply QCw_2037 | apply QCw_2036 | apply QCw_2038 | apply QCw_2039 | apply QCw_2040 | apply QCw_2041 | apply QCw_2042 | apply QCw_2043 | apply QCw_609 | apply QCw_610 | apply QCw_611 | apply QCw_612 | apply QCw_2016 | apply QCw_2017 | apply QCw_2014 | apply QCw_2015 | apply QCw_206 | apply QCw_207 | apply QCw_410 | apply QCw_411 | apply QCw_412 | apply QCw_413 | apply QCw_2025 | refine QC_g (by decide) ?_ | refine QC_sm (by assumption) (by decide) (by decide) ?_))⟩
    · skip
      refine zs_iconst (pc := 22) C dX3_readJoint_22 (by decide) ?_
      refine zs_goto (tgt := 27) (pc := 23) C dX3_readJoint_23 (by decide) ?_
      refine zVv1 (pc := 27) C dX3_readJoint_27 v_X3_188 (c_X3_releaseF hX (by repeat (first | assumption | apply QCw_407 | apply QCw_408 | apply QCw_406 | apply QCw_2037 | apply QCw_2036 | apply QCw_2038 | apply QCw_2039 | apply QCw_2040 | apply QCw_2041 | apply QCw_2042 | apply QCw_2043 | apply QCw_609 | apply QCw_610 | apply QCw_611 | apply QCw_612 | apply QCw_2016 | apply QCw_2017 | apply QCw_2014 | apply QCw_2015 | apply QCw_206 | apply QCw_207 | apply QCw_410 | apply QCw_411 | apply QCw_412 | apply QCw_413 | apply QCw_2025 | refine QC_g (by decide) ?_ | refine QC_sm (by assumption) (by decide) (by decide) ?_))) (by decide) (by decide) ⟨Nat.zero_le _, Nat.zero_le _⟩ (Nat.le_of_ble_eq_true rfl) (fun G27 hp27 => ?_)
      obtain ⟨hz27, hq27⟩ := hp27
      have hZ27 := hq27
      first | (have hJ : sRel 5 A = sJR k A := (by unfold sJR; rw [if_pos (by omega)]); rw [hJ] at hZ27) | (have hJ : sRel (bnd k) A = sJR k A := (by unfold sJR; rw [if_neg (by omega)]); rw [hJ] at hZ27) | skip
      refine zs_iload_n (pc := 30) C dX3_readJoint_30 rfl ?_
      refine zs_if_eq (tgt := 68) (pc := 31) C dX3_readJoint_31 (by decide) (fun h31 => ?_) (fun h31 => ?_)
      · skip
        refine zs_aload_n (pc := 68) C dX3_readJoint_68 rfl ?_
        refine zVi0 (pc := 69) C dX3_readJoint_69 v_X3_197 (c_X3_countKnotF hX (by repeat (first | assumption | apply QCw_407 | apply QCw_408 | apply QCw_406 | apply QCw_2037 | apply QCw_2036 | apply QCw_2038 | apply QCw_2039 | apply QCw_2040 | apply QCw_2041 | apply QCw_2042 | apply QCw_2043 | apply QCw_609 | apply QCw_610 | apply QCw_611 | apply QCw_612 | apply QCw_2016 | apply QCw_2017 | apply QCw_2014 | apply QCw_2015 | apply QCw_206 | apply QCw_207 | apply QCw_410 | apply QCw_411 | apply QCw_412 | apply QCw_413 | apply QCw_2025 | refine QC_g (by decide) ?_ | refine QC_sm (by assumption) (by decide) (by decide) ?_))) (by decide) (by decide) ⟨Nat.zero_le _, Nat.zero_le _⟩ (Nat.le_of_ble_eq_true rfl) (fun x69 G69 l69 u69 hp69 => ?_)
        obtain ⟨hz69, hq69⟩ := hp69
        have hZ69 := hq69.1
        have hX69 := hq69.2
        refine zs_if_eq (tgt := 99) (pc := 72) C dX3_readJoint_72 (by decide) (fun h72 => ?_) (fun h72 => ?_)
        · skip
          exact zs_vret (pc := 99) C hr hlk dX3_readJoint_99 ⟨by repeat (first | exact zsm_rf | assumption | refine zsm_C (by decide) ?_ | refine zsm_I (by decide) ?_ | refine zsm_J ?_ | refine zsm_c (by assumption) (by decide) ?_), by unfold sJoint sJB; (repeat' split) <;> first | assumption | (exfalso; omega) | exact (by repeat (first | assumption | apply QCw_407 | apply QCw_408 | apply QCw_406 | apply QCw_2037 | apply QCw_2036 | apply QCw_2038 | apply QCw_2039 | apply QCw_2040 | apply QCw_2041 | apply QCw_2042 | apply QCw_2043 | apply QCw_609 | apply QCw_610 | apply QCw_611 | apply QCw_612 | apply QCw_2016 | apply QCw_2017 | apply QCw_2014 | apply QCw_2015 | apply QCw_206 | apply QCw_207 | apply QCw_410 | apply QCw_411 | apply QCw_412 | apply QCw_413 | apply QCw_2025 | refine QC_g (by decide) ?_ | refine QC_sm (by assumption) (by decide) (by decide) ?_))⟩
        · skip
          refine zs_aload_n (pc := 75) C dX3_readJoint_75 rfl ?_
          refine zs_iconst (pc := 76) C dX3_readJoint_76 (by decide) ?_
          refine zs_putz (r := 412) (pc := 77) C dX3_readJoint_77 w_X3_171 f_4_12 rfl (r_412 0) (by omega) (by omega) ?_
          refine zs_aload_n (pc := 80) C dX3_readJoint_80 rfl ?_
          refine zs_iload_n (pc := 81) C dX3_readJoint_81 rfl ?_
          refine zs_iconst (pc := 82) C dX3_readJoint_82 (by decide) ?_
          refine zs_icmp_ge (tgt := 90) (pc := 83) C dX3_readJoint_83 (by decide) (fun h83 => ?_) (fun h83 => ?_)
          · skip
            refine zs_iconst (pc := 90) C dX3_readJoint_90 (by decide) ?_
            refine zs_putz (r := 413) (pc := 91) C dX3_readJoint_91 w_X3_175 f_4_13 rfl (r_413 0) (by omega) (by omega) ?_
            refine zs_aload_n (pc := 94) C dX3_readJoint_94 rfl ?_
            refine zs_iload_n (pc := 95) C dX3_readJoint_95 rfl ?_
            refine zVv1 (pc := 96) C dX3_readJoint_96 v_X3_200 (c_X3_pushF hX (by repeat (first | assumption | apply QCw_407 | apply QCw_408 | apply QCw_406 | apply QCw_2037 | apply QCw_2036 | apply QCw_2038 | apply QCw_2039 | apply QCw_2040 | apply QCw_2041 | apply QCw_2042 | apply QCw_2043 | apply QCw_609 | apply QCw_610 | apply QCw_611 | apply QCw_612 | apply QCw_2016 | apply QCw_2017 | apply QCw_2014 | apply QCw_2015 | apply QCw_206 | apply QCw_207 | apply QCw_410 | apply QCw_411 | apply QCw_412 | apply QCw_413 | apply QCw_2025 | refine QC_g (by decide) ?_ | refine QC_sm (by assumption) (by decide) (by decide) ?_)) (by first | omega | (simp only [zuI_1, zuI_2, zuJ_1, zuJ_2, zuJ_3, zuP_1, zuP_2, zuP_3, zuC_1, zuC_2, reduceIte, Nat.reduceEqDiff, false_and, and_false, true_and, and_true, and_self, or_true, true_or, or_false, false_or]; omega))) (by decide) (by decide) ⟨Nat.zero_le _, Nat.zero_le _⟩ (Nat.le_of_ble_eq_true rfl) (fun G96 hp96 => ?_)
            obtain ⟨hz96, hq96⟩ := hp96
            try simp only [zuI_1, zuI_2, zuJ_1, zuJ_2, zuJ_3, zuP_1, zuP_2, zuP_3, zuC_1, zuC_2, reduceIte, Nat.reduceEqDiff, false_and, and_false, true_and, and_true, and_self, or_true, true_or, or_false, false_or] at hq96
            have hZ96 := hq96
            exact zs_vret (pc := 99) C hr hlk dX3_readJoint_99 ⟨by repeat (first | exact zsm_rf | assumption | refine zsm_C (by decide) ?_ | refine zsm_I (by decide) ?_ | refine zsm_J ?_ | refine zsm_c (by assumption) (by decide) ?_), by unfold sJoint sJB; (repeat' split) <;> first | assumption | (exfalso; omega) | exact (by repeat (first | assumption | apply QCw_407 | apply QCw_408 | apply QCw_406 | apply QCw_2037 | apply QCw_2036 | apply QCw_2038 | apply QCw_2039 | apply QCw_2040 | apply QCw_2041 | apply QCw_2042 | apply QCw_2043 | apply QCw_609 | apply QCw_610 | apply QCw_611 | apply QCw_612 | apply QCw_2016 | apply QCw_2017 | apply QCw_2014 | apply QCw_2015 | apply QCw_206 | apply QCw_207 | apply QCw_410 | apply QCw_411 | apply QCw_412 | apply QCw_413 | apply QCw_2025 | refine QC_g (by decide) ?_ | refine QC_sm (by assumption) (by decide) (by decide) ?_))⟩
          · skip
            refine zs_iconst (pc := 86) C dX3_readJoint_86 (by decide) ?_
            refine zs_goto (tgt := 91) (pc := 87) C dX3_readJoint_87 (by decide) ?_
            refine zs_putz (r := 413) (pc := 91) C dX3_readJoint_91 w_X3_175 f_4_13 rfl (r_413 0) (by omega) (by omega) ?_
            refine zs_aload_n (pc := 94) C dX3_readJoint_94 rfl ?_
            refine zs_iload_n (pc := 95) C dX3_readJoint_95 rfl ?_
            refine zVv1 (pc := 96) C dX3_readJoint_96 v_X3_200 (c_X3_pushF hX (by repeat (first | assumption | apply QCw_407 | apply QCw_408 | apply QCw_406 | apply QCw_2037 | apply QCw_2036 | apply QCw_2038 | apply QCw_2039 | apply QCw_2040 | apply QCw_2041 | apply QCw_2042 | apply QCw_2043 | apply QCw_609 | apply QCw_610 | apply QCw_611 | apply QCw_612 | apply QCw_2016 | apply QCw_2017 | apply QCw_2014 | apply QCw_2015 | apply QCw_206 | apply QCw_207 | apply QCw_410 | apply QCw_411 | apply QCw_412 | apply QCw_413 | apply QCw_2025 | refine QC_g (by decide) ?_ | refine QC_sm (by assumption) (by decide) (by decide) ?_)) (by first | omega | (simp only [zuI_1, zuI_2, zuJ_1, zuJ_2, zuJ_3, zuP_1, zuP_2, zuP_3, zuC_1, zuC_2, reduceIte, Nat.reduceEqDiff, false_and, and_false, true_and, and_true, and_self, or_true, true_or, or_false, false_or]; omega))) (by decide) (by decide) ⟨Nat.zero_le _, Nat.zero_le _⟩ (Nat.le_of_ble_eq_true rfl) (fun G96 hp96 => ?_)
            obtain ⟨hz96, hq96⟩ := hp96
            try simp only [zuI_1, zuI_2, zuJ_1, zuJ_2, zuJ_3, zuP_1, zuP_2, zuP_3, zuC_1, zuC_2, reduceIte, Nat.reduceEqDiff, false_and, and_false, true_and, and_true, and_self, or_true, true_or, or_false, false_or] at hq96
            have hZ96 := hq96
            exact zs_vret (pc := 99) C hr hlk dX3_readJoint_99 ⟨by repeat (first | exact zsm_rf | assumption | refine zsm_C (by decide) ?_ | refine zsm_I (by decide) ?_ | refine zsm_J ?_ | refine zsm_c (by assumption) (by decide) ?_), by unfold sJoint sJB; (repeat' split) <;> first | assumption | (exfalso; omega) | exact (by repeat (first | assumption | apply QCw_407 | apply QCw_408 | apply QCw_406 | apply QCw_2037 | apply QCw_2036 | apply QCw_2038 | apply QCw_2039 | apply QCw_2040 | apply QCw_2041 | apply QCw_2042 | apply QCw_2043 | apply QCw_609 | apply QCw_610 | apply QCw_611 | apply QCw_612 | apply QCw_2016 | apply QCw_2017 | apply QCw_2014 | apply QCw_2015 | apply QCw_206 | apply QCw_207 | apply QCw_410 | apply QCw_411 | apply QCw_412 | apply QCw_413 | apply QCw_2025 | refine QC_g (by decide) ?_ | refine QC_sm (by assumption) (by decide) (by decide) ?_))⟩
      · skip
        refine zs_aload_n (pc := 34) C dX3_readJoint_34 rfl ?_
        refine zs_geti (r := 410) (pc := 35) C dX3_readJoint_35 w_X3_165 f_4_10 rfl (r_410 0) (fun v35 e35 l35 u35 => ?_)
        try simp only [QC_410 hZ27, QC_410 hZ] at e35
        try subst v35
        refine zs_if_le (tgt := 68) (pc := 38) C dX3_readJoint_38 (by decide) (fun h38 => ?_) (fun h38 => ?_)
        · skip
          refine zs_aload_n (pc := 68) C dX3_readJoint_68 rfl ?_
          refine zVi0 (pc := 69) C dX3_readJoint_69 v_X3_197 (c_X3_countKnotF hX (by repeat (first | assumption | apply QCw_407 | apply QCw_408 | apply QCw_406 | apply QCw_2037 | apply QCw_2036 | apply QCw_2038 | apply QCw_2039 | apply QCw_2040 | apply QCw_2041 | apply QCw_2042 | apply QCw_2043 | apply QCw_609 | apply QCw_610 | apply QCw_611 | apply QCw_612 | apply QCw_2016 | apply QCw_2017 | apply QCw_2014 | apply QCw_2015 | apply QCw_206 | apply QCw_207 | apply QCw_410 | apply QCw_411 | apply QCw_412 | apply QCw_413 | apply QCw_2025 | refine QC_g (by decide) ?_ | refine QC_sm (by assumption) (by decide) (by decide) ?_))) (by decide) (by decide) ⟨Nat.zero_le _, Nat.zero_le _⟩ (Nat.le_of_ble_eq_true rfl) (fun x69 G69 l69 u69 hp69 => ?_)
          obtain ⟨hz69, hq69⟩ := hp69
          have hZ69 := hq69.1
          have hX69 := hq69.2
          refine zs_if_eq (tgt := 99) (pc := 72) C dX3_readJoint_72 (by decide) (fun h72 => ?_) (fun h72 => ?_)
          · skip
            exact zs_vret (pc := 99) C hr hlk dX3_readJoint_99 ⟨by repeat (first | exact zsm_rf | assumption | refine zsm_C (by decide) ?_ | refine zsm_I (by decide) ?_ | refine zsm_J ?_ | refine zsm_c (by assumption) (by decide) ?_), by unfold sJoint sJB; (repeat' split) <;> first | assumption | (exfalso; omega) | exact (by repeat (first | assumption | apply QCw_407 | apply QCw_408 | apply QCw_406 | apply QCw_2037 | apply QCw_2036 | apply QCw_2038 | apply QCw_2039 | apply QCw_2040 | apply QCw_2041 | apply QCw_2042 | apply QCw_2043 | apply QCw_609 | apply QCw_610 | apply QCw_611 | apply QCw_612 | apply QCw_2016 | apply QCw_2017 | apply QCw_2014 | apply QCw_2015 | apply QCw_206 | apply QCw_207 | apply QCw_410 | apply QCw_411 | apply QCw_412 | apply QCw_413 | apply QCw_2025 | refine QC_g (by decide) ?_ | refine QC_sm (by assumption) (by decide) (by decide) ?_))⟩
          · skip
            refine zs_aload_n (pc := 75) C dX3_readJoint_75 rfl ?_
            refine zs_iconst (pc := 76) C dX3_readJoint_76 (by decide) ?_
            refine zs_putz (r := 412) (pc := 77) C dX3_readJoint_77 w_X3_171 f_4_12 rfl (r_412 0) (by omega) (by omega) ?_
            refine zs_aload_n (pc := 80) C dX3_readJoint_80 rfl ?_
            refine zs_iload_n (pc := 81) C dX3_readJoint_81 rfl ?_
            refine zs_iconst (pc := 82) C dX3_readJoint_82 (by decide) ?_
            refine zs_icmp_ge (tgt := 90) (pc := 83) C dX3_readJoint_83 (by decide) (fun h83 => ?_) (fun h83 => ?_)
            · skip
              refine zs_iconst (pc := 90) C dX3_readJoint_90 (by decide) ?_
              refine zs_putz (r := 413) (pc := 91) C dX3_readJoint_91 w_X3_175 f_4_13 rfl (r_413 0) (by omega) (by omega) ?_
              refine zs_aload_n (pc := 94) C dX3_readJoint_94 rfl ?_
              refine zs_iload_n (pc := 95) C dX3_readJoint_95 rfl ?_
              refine zVv1 (pc := 96) C dX3_readJoint_96 v_X3_200 (c_X3_pushF hX (by repeat (first | assumption | apply QCw_407 | apply QCw_408 | apply QCw_406 | apply QCw_2037 | apply QCw_2036 | apply QCw_2038 | apply QCw_2039 | apply QCw_2040 | apply QCw_2041 | apply QCw_2042 | apply QCw_2043 | apply QCw_609 | apply QCw_610 | apply QCw_611 | apply QCw_612 | apply QCw_2016 | apply QCw_2017 | apply QCw_2014 | apply QCw_2015 | apply QCw_206 | apply QCw_207 | apply QCw_410 | apply QCw_411 | apply QCw_412 | apply QCw_413 | apply QCw_2025 | refine QC_g (by decide) ?_ | refine QC_sm (by assumption) (by decide) (by decide) ?_)) (by first | omega | (simp only [zuI_1, zuI_2, zuJ_1, zuJ_2, zuJ_3, zuP_1, zuP_2, zuP_3, zuC_1, zuC_2, reduceIte, Nat.reduceEqDiff, false_and, and_false, true_and, and_true, and_self, or_true, true_or, or_false, false_or]; omega))) (by decide) (by decide) ⟨Nat.zero_le _, Nat.zero_le _⟩ (Nat.le_of_ble_eq_true rfl) (fun G96 hp96 => ?_)
              obtain ⟨hz96, hq96⟩ := hp96
              try simp only [zuI_1, zuI_2, zuJ_1, zuJ_2, zuJ_3, zuP_1, zuP_2, zuP_3, zuC_1, zuC_2, reduceIte, Nat.reduceEqDiff, false_and, and_false, true_and, and_true, and_self, or_true, true_or, or_false, false_or] at hq96
              have hZ96 := hq96
              exact zs_vret (pc := 99) C hr hlk dX3_readJoint_99 ⟨by repeat (first | exact zsm_rf | assumption | refine zsm_C (by decide) ?_ | refine zsm_I (by decide) ?_ | refine zsm_J ?_ | refine zsm_c (by assumption) (by decide) ?_), by unfold sJoint sJB; (repeat' split) <;> first | assumption | (exfalso; omega) | exact (by repeat (first | assumption | apply QCw_407 | apply QCw_408 | apply QCw_406 | apply QCw_2037 | apply QCw_2036 | apply QCw_2038 | apply QCw_2039 | apply QCw_2040 | apply QCw_2041 | apply QCw_2042 | apply QCw_2043 | apply QCw_609 | apply QCw_610 | apply QCw_611 | apply QCw_612 | apply QCw_2016 | apply QCw_2017 | apply QCw_2014 | apply QCw_2015 | apply QCw_206 | apply QCw_207 | apply QCw_410 | apply QCw_411 | apply QCw_412 | apply QCw_413 | apply QCw_2025 | refine QC_g (by decide) ?_ | refine QC_sm (by assumption) (by decide) (by decide) ?_))⟩
            · skip
              refine zs_iconst (pc := 86) C dX3_readJoint_86 (by decide) ?_
              refine zs_goto (tgt := 91) (pc := 87) C dX3_readJoint_87 (by decide) ?_
              refine zs_putz (r := 413) (pc := 91) C dX3_readJoint_91 w_X3_175 f_4_13 rfl (r_413 0) (by omega) (by omega) ?_
              refine zs_aload_n (pc := 94) C dX3_readJoint_94 rfl ?_
              refine zs_iload_n (pc := 95) C dX3_readJoint_95 rfl ?_
              refine zVv1 (pc := 96) C dX3_readJoint_96 v_X3_200 (c_X3_pushF hX (by repeat (first | assumption | apply QCw_407 | apply QCw_408 | apply QCw_406 | apply QCw_2037 | apply QCw_2036 | apply QCw_2038 | apply QCw_2039 | apply QCw_2040 | apply QCw_2041 | apply QCw_2042 | apply QCw_2043 | apply QCw_609 | apply QCw_610 | apply QCw_611 | apply QCw_612 | apply QCw_2016 | apply QCw_2017 | apply QCw_2014 | apply QCw_2015 | apply QCw_206 | apply QCw_207 | apply QCw_410 | apply QCw_411 | apply QCw_412 | apply QCw_413 | apply QCw_2025 | refine QC_g (by decide) ?_ | refine QC_sm (by assumption) (by decide) (by decide) ?_)) (by first | omega | (simp only [zuI_1, zuI_2, zuJ_1, zuJ_2, zuJ_3, zuP_1, zuP_2, zuP_3, zuC_1, zuC_2, reduceIte, Nat.reduceEqDiff, false_and, and_false, true_and, and_true, and_self, or_true, true_or, or_false, false_or]; omega))) (by decide) (by decide) ⟨Nat.zero_le _, Nat.zero_le _⟩ (Nat.le_of_ble_eq_true rfl) (fun G96 hp96 => ?_)
              obtain ⟨hz96, hq96⟩ := hp96
              try simp only [zuI_1, zuI_2, zuJ_1, zuJ_2, zuJ_3, zuP_1, zuP_2, zuP_3, zuC_1, zuC_2, reduceIte, Nat.reduceEqDiff, false_and, and_false, true_and, and_true, and_self, or_true, true_or, or_false, false_or] at hq96
              have hZ96 := hq96
              exact zs_vret (pc := 99) C hr hlk dX3_readJoint_99 ⟨by repeat (first | exact zsm_rf | assumption | refine zsm_C (by decide) ?_ | refine zsm_I (by decide) ?_ | refine zsm_J ?_ | refine zsm_c (by assumption) (by decide) ?_), by unfold sJoint sJB; (repeat' split) <;> first | assumption | (exfalso; omega) | exact (by repeat (first | assumption | apply QCw_407 | apply QCw_408 | apply QCw_406 | apply QCw_2037 | apply QCw_2036 | apply QCw_2038 | apply QCw_2039 | apply QCw_2040 | apply QCw_2041 | apply QCw_2042 | apply QCw_2043 | apply QCw_609 | apply QCw_610 | apply QCw_611 | apply QCw_612 | apply QCw_2016 | apply QCw_2017 | apply QCw_2014 | apply QCw_2015 | apply QCw_206 | apply QCw_207 | apply QCw_410 | apply QCw_411 | apply QCw_412 | apply QCw_413 | apply QCw_2025 | refine QC_g (by decide) ?_ | refine QC_sm (by assumption) (by decide) (by decide) ?_))⟩
        · skip
          refine zs_binds (pc := 41) C dX3_readJoint_41 q_X3_220 ?_
          refine zs_aload_n (pc := 44) C dX3_readJoint_44 rfl ?_
          refine zs_getf (pc := 45) C dX3_readJoint_45 w_X3_27 f_4_9 (by decide) ?_
          refine zs_aload_n (pc := 48) C dX3_readJoint_48 rfl ?_
          refine zs_geti (r := 410) (pc := 49) C dX3_readJoint_49 w_X3_165 f_4_10 rfl (r_410 0) (fun v49 e49 l49 u49 => ?_)
          try simp only [QC_410 hZ27, QC_410 hZ] at e49
          try subst v49
          refine zs_iconst (pc := 52) C dX3_readJoint_52 (by decide) ?_
          first | refine zs_isub (pc := 53) C dX3_readJoint_53 (by omega) ?_ | refine zs_isubF (pc := 53) C dX3_readJoint_53 (fun z53 hz531 hz532 => ?_)
          refine zs_iald (r := 2025) (pc := 54) C dX3_readJoint_54 a_25 (by decide) (by omega) rfl (r_2025 _) (fun v54 e54 l54 u54 => ?_)
          try simp only [QC_2025 hZ27, QC_2025 hZ] at e54
          try subst v54
          refine zs_xald (pc := 55) C 1 dX3_readJoint_55 (by decide) rfl (by have := hX.1; have := hX.2.1; omega) (fun v55 e55 l55 u55 => ?_)
          first | (have hb55 := hX.2.2.2 ((sJR k A) 26 ((sJR k A) 22 0 - 1).toNat).toNat (by omega); have hc55 : v55 = bnd ((sJR k A) 26 ((sJR k A) 22 0 - 1).toNat) := e55.trans hb55; subst hc55) | skip
          refine zs_iconst (pc := 56) C dX3_readJoint_56 (by decide) ?_
          refine zs_icmp_ne (tgt := 68) (pc := 57) C dX3_readJoint_57 (by decide) (fun h57 => ?_) (fun h57 => ?_)
          · skip
            refine zs_aload_n (pc := 68) C dX3_readJoint_68 rfl ?_
            refine zVi0 (pc := 69) C dX3_readJoint_69 v_X3_197 (c_X3_countKnotF hX (by repeat (first | assumption | apply QCw_407 | apply QCw_408 | apply QCw_406 | apply QCw_2037 | apply QCw_2036 | apply QCw_2038 | apply QCw_2039 | apply QCw_2040 | apply QCw_2041 | apply QCw_2042 | apply QCw_2043 | apply QCw_609 | apply QCw_610 | apply QCw_611 | apply QCw_612 | apply QCw_2016 | apply QCw_2017 | apply QCw_2014 | apply QCw_2015 | apply QCw_206 | apply QCw_207 | apply QCw_410 | apply QCw_411 | apply QCw_412 | apply QCw_413 | apply QCw_2025 | refine QC_g (by decide) ?_ | refine QC_sm (by assumption) (by decide) (by decide) ?_))) (by decide) (by decide) ⟨Nat.zero_le _, Nat.zero_le _⟩ (Nat.le_of_ble_eq_true rfl) (fun x69 G69 l69 u69 hp69 => ?_)
            obtain ⟨hz69, hq69⟩ := hp69
            have hZ69 := hq69.1
            have hX69 := hq69.2
            refine zs_if_eq (tgt := 99) (pc := 72) C dX3_readJoint_72 (by decide) (fun h72 => ?_) (fun h72 => ?_)
            · skip
              exact zs_vret (pc := 99) C hr hlk dX3_readJoint_99 ⟨by repeat (first | exact zsm_rf | assumption | refine zsm_C (by decide) ?_ | refine zsm_I (by decide) ?_ | refine zsm_J ?_ | refine zsm_c (by assumption) (by decide) ?_), by unfold sJoint sJB; (repeat' split) <;> first | assumption | (exfalso; omega) | exact (by repeat (first | assumption | apply QCw_407 | apply QCw_408 | apply QCw_406 | apply QCw_2037 | apply QCw_2036 | apply QCw_2038 | apply QCw_2039 | apply QCw_2040 | apply QCw_2041 | apply QCw_2042 | apply QCw_2043 | apply QCw_609 | apply QCw_610 | apply QCw_611 | apply QCw_612 | apply QCw_2016 | apply QCw_2017 | apply QCw_2014 | apply QCw_2015 | apply QCw_206 | apply QCw_207 | apply QCw_410 | apply QCw_411 | apply QCw_412 | apply QCw_413 | apply QCw_2025 | refine QC_g (by decide) ?_ | refine QC_sm (by assumption) (by decide) (by decide) ?_))⟩
            · skip
              refine zs_aload_n (pc := 75) C dX3_readJoint_75 rfl ?_
              refine zs_iconst (pc := 76) C dX3_readJoint_76 (by decide) ?_
              refine zs_putz (r := 412) (pc := 77) C dX3_readJoint_77 w_X3_171 f_4_12 rfl (r_412 0) (by omega) (by omega) ?_
              refine zs_aload_n (pc := 80) C dX3_readJoint_80 rfl ?_
              refine zs_iload_n (pc := 81) C dX3_readJoint_81 rfl ?_
              refine zs_iconst (pc := 82) C dX3_readJoint_82 (by decide) ?_
              refine zs_icmp_ge (tgt := 90) (pc := 83) C dX3_readJoint_83 (by decide) (fun h83 => ?_) (fun h83 => ?_)
              · skip
                refine zs_iconst (pc := 90) C dX3_readJoint_90 (by decide) ?_
                refine zs_putz (r := 413) (pc := 91) C dX3_readJoint_91 w_X3_175 f_4_13 rfl (r_413 0) (by omega) (by omega) ?_
                refine zs_aload_n (pc := 94) C dX3_readJoint_94 rfl ?_
                refine zs_iload_n (pc := 95) C dX3_readJoint_95 rfl ?_
                refine zVv1 (pc := 96) C dX3_readJoint_96 v_X3_200 (c_X3_pushF hX (by repeat (first | assumption | apply QCw_407 | apply QCw_408 | apply QCw_406 | apply QCw_2037 | apply QCw_2036 | apply QCw_2038 | apply QCw_2039 | apply QCw_2040 | apply QCw_2041 | apply QCw_2042 | apply QCw_2043 | apply QCw_609 | apply QCw_610 | apply QCw_611 | apply QCw_612 | apply QCw_2016 | apply QCw_2017 | apply QCw_2014 | apply QCw_2015 | apply QCw_206 | apply QCw_207 | apply QCw_410 | apply QCw_411 | apply QCw_412 | apply QCw_413 | apply QCw_2025 | refine QC_g (by decide) ?_ | refine QC_sm (by assumption) (by decide) (by decide) ?_)) (by first | omega | (simp only [zuI_1, zuI_2, zuJ_1, zuJ_2, zuJ_3, zuP_1, zuP_2, zuP_3, zuC_1, zuC_2, reduceIte, Nat.reduceEqDiff, false_and, and_false, true_and, and_true, and_self, or_true, true_or, or_false, false_or]; omega))) (by decide) (by decide) ⟨Nat.zero_le _, Nat.zero_le _⟩ (Nat.le_of_ble_eq_true rfl) (fun G96 hp96 => ?_)
                obtain ⟨hz96, hq96⟩ := hp96
                try simp only [zuI_1, zuI_2, zuJ_1, zuJ_2, zuJ_3, zuP_1, zuP_2, zuP_3, zuC_1, zuC_2, reduceIte, Nat.reduceEqDiff, false_and, and_false, true_and, and_true, and_self, or_true, true_or, or_false, false_or] at hq96
                have hZ96 := hq96
                exact zs_vret (pc := 99) C hr hlk dX3_readJoint_99 ⟨by repeat (first | exact zsm_rf | assumption | refine zsm_C (by decide) ?_ | refine zsm_I (by decide) ?_ | refine zsm_J ?_ | refine zsm_c (by assumption) (by decide) ?_), by unfold sJoint sJB; (repeat' split) <;> first | assumption | (exfalso; omega) | exact (by repeat (first | assumption | apply QCw_407 | apply QCw_408 | apply QCw_406 | apply QCw_2037 | apply QCw_2036 | apply QCw_2038 | apply QCw_2039 | apply QCw_2040 | apply QCw_2041 | apply QCw_2042 | apply QCw_2043 | apply QCw_609 | apply QCw_610 | apply QCw_611 | apply QCw_612 | apply QCw_2016 | apply QCw_2017 | apply QCw_2014 | apply QCw_2015 | apply QCw_206 | apply QCw_207 | apply QCw_410 | apply QCw_411 | apply QCw_412 | apply QCw_413 | apply QCw_2025 | refine QC_g (by decide) ?_ | refine QC_sm (by assumption) (by decide) (by decide) ?_))⟩
              · skip
                refine zs_iconst (pc := 86) C dX3_readJoint_86 (by decide) ?_
                refine zs_goto (tgt := 91) (pc := 87) C dX3_readJoint_87 (by decide) ?_
                refine zs_putz (r := 413) (pc := 91) C dX3_readJoint_91 w_X3_175 f_4_13 rfl (r_413 0) (by omega) (by omega) ?_
                refine zs_aload_n (pc := 94) C dX3_readJoint_94 rfl ?_
                refine zs_iload_n (pc := 95) C dX3_readJoint_95 rfl ?_
                refine zVv1 (pc := 96) C dX3_readJoint_96 v_X3_200 (c_X3_pushF hX (by repeat (first | assumption | apply QCw_407 | apply QCw_408 | apply QCw_406 | apply QCw_2037 | apply QCw_2036 | apply QCw_2038 | apply QCw_2039 | apply QCw_2040 | apply QCw_2041 | apply QCw_2042 | apply QCw_2043 | apply QCw_609 | apply QCw_610 | apply QCw_611 | apply QCw_612 | apply QCw_2016 | apply QCw_2017 | apply QCw_2014 | apply QCw_2015 | apply QCw_206 | apply QCw_207 | apply QCw_410 | apply QCw_411 | apply QCw_412 | apply QCw_413 | apply QCw_2025 | refine QC_g (by decide) ?_ | refine QC_sm (by assumption) (by decide) (by decide) ?_)) (by first | omega | (simp only [zuI_1, zuI_2, zuJ_1, zuJ_2, zuJ_3, zuP_1, zuP_2, zuP_3, zuC_1, zuC_2, reduceIte, Nat.reduceEqDiff, false_and, and_false, true_and, and_true, and_self, or_true, true_or, or_false, false_or]; omega))) (by decide) (by decide) ⟨Nat.zero_le _, Nat.zero_le _⟩ (Nat.le_of_ble_eq_true rfl) (fun G96 hp96 => ?_)
                obtain ⟨hz96, hq96⟩ := hp96
                try simp only [zuI_1, zuI_2, zuJ_1, zuJ_2, zuJ_3, zuP_1, zuP_2, zuP_3, zuC_1, zuC_2, reduceIte, Nat.reduceEqDiff, false_and, and_false, true_and, and_true, and_self, or_true, true_or, or_false, false_or] at hq96
                have hZ96 := hq96
                exact zs_vret (pc := 99) C hr hlk dX3_readJoint_99 ⟨by repeat (first | exact zsm_rf | assumption | refine zsm_C (by decide) ?_ | refine zsm_I (by decide) ?_ | refine zsm_J ?_ | refine zsm_c (by assumption) (by decide) ?_), by unfold sJoint sJB; (repeat' split) <;> first | assumption | (exfalso; omega) | exact (by repeat (first | assumption | apply QCw_407 | apply QCw_408 | apply QCw_406 | apply QCw_2037 | apply QCw_2036 | apply QCw_2038 | apply QCw_2039 | apply QCw_2040 | apply QCw_2041 | apply QCw_2042 | apply QCw_2043 | apply QCw_609 | apply QCw_610 | apply QCw_611 | apply QCw_612 | apply QCw_2016 | apply QCw_2017 | apply QCw_2014 | apply QCw_2015 | apply QCw_206 | apply QCw_207 | apply QCw_410 | apply QCw_411 | apply QCw_412 | apply QCw_413 | apply QCw_2025 | refine QC_g (by decide) ?_ | refine QC_sm (by assumption) (by decide) (by decide) ?_))⟩
          · skip
            refine zs_aload_n (pc := 60) C dX3_readJoint_60 rfl ?_
            refine zs_iconst (pc := 61) C dX3_readJoint_61 (by decide) ?_
            refine zVv1 (pc := 62) C dX3_readJoint_62 v_X3_114 (c_X3_failF hX (by repeat (first | assumption | apply QCw_407 | apply QCw_408 | apply QCw_406 | apply QCw_2037 | apply QCw_2036 | apply QCw_2038 | apply QCw_2039 | apply QCw_2040 | apply QCw_2041 | apply QCw_2042 | apply QCw_2043 | apply QCw_609 | apply QCw_610 | apply QCw_611 | apply QCw_612 | apply QCw_2016 | apply QCw_2017 | apply QCw_2014 | apply QCw_2015 | apply QCw_206 | apply QCw_207 | apply QCw_410 | apply QCw_411 | apply QCw_412 | apply QCw_413 | apply QCw_2025 | refine QC_g (by decide) ?_ | refine QC_sm (by assumption) (by decide) (by decide) ?_))) (by decide) (by decide) ⟨Nat.zero_le _, Nat.zero_le _⟩ (Nat.le_of_ble_eq_true rfl) (fun G62 hp62 => ?_)
            obtain ⟨hz62, hq62⟩ := hp62
            have hZ62 := hq62
            refine zs_goto (tgt := 99) (pc := 65) C dX3_readJoint_65 (by decide) ?_
            exact zs_vret (pc := 99) C hr hlk dX3_readJoint_99 ⟨by repeat (first | exact zsm_rf | assumption | refine zsm_C (by decide) ?_ | refine zsm_I (by decide) ?_ | refine zsm_J ?_ | refine zsm_c (by assumption) (by decide) ?_), by unfold sJoint sJB; (repeat' split) <;> first | assumption | (exfalso; omega) | exact (by repeat (first | assumption | apply QCw_407 | apply QCw_408 | apply QCw_406 | apply QCw_2037 | apply QCw_2036 | apply QCw_2038 | apply QCw_2039 | apply QCw_2040 | apply QCw_2041 | apply QCw_2042 | apply QCw_2043 | apply QCw_609 | apply QCw_610 | apply QCw_611 | apply QCw_612 | apply QCw_2016 | apply QCw_2017 | apply QCw_2014 | apply QCw_2015 | apply QCw_206 | apply QCw_207 | apply QCw_410 | apply QCw_411 | apply QCw_412 | apply QCw_413 | apply QCw_2025 | refine QC_g (by decide) ?_ | refine QC_sm (by assumption) (by decide) (by decide) ?_))⟩

set_option maxHeartbeats 4000000 in
set_option maxRecDepth 100000 in
theorem c_X3_readBehindSideF {l : Launch} {Γ : zΓ} {G : zH} {w t : Nat} {b : Nat → Int} {n : Int} {N : Nat} {A : aS}  (hX : zXs Γ) (hZ : QC b n N Γ w t A G)  : zMet l Γ yX3_readBehindSide cX3_readBehindSide 2 (some .boolean) 3 [zr 4 w] G (zpi (fun x G' => zsm [402, 403, 404, 405, 406, 407, 408, 409, 410, 411, 412, 413, 2025, 206, 207, 2014, 2015, 2016, 2017, 2036, 2037, 2038, 2039, 2040, 2041, 2042, 2043, 609, 610, 611, 612] G G' ∧ (QC b n N Γ w t (sBehind b n A) G' ∧ ((x = 0 ∨ x = 1) ∧ x = sGo b n A)))) := by
  have hI := QC_t hZ
  have hr23 := sRel_f (r := 1) (A := A) (f := 23) (j := 0) (by decide) (by decide) (by decide) (by decide) (by decide)
  refine zMet_of RX3 hX (by decide) rfl (Nat.le_of_ble_eq_true rfl) ?_
  intro p e s m args below meth c C hr hlk
  show Z p l e (zrm 3) s m args below meth c Γ 2 0 0 (MQ below (zQc Γ (zpi (fun x G' => zsm [402, 403, 404, 405, 406, 407, 408, 409, 410, 411, 412, 413, 2025, 206, 207, 2014, 2015, 2016, 2017, 2036, 2037, 2038, 2039, 2040, 2041, 2042, 2043, 609, 610, 611, 612] G G' ∧ (QC b n N Γ w t (sBehind b n A) G' ∧ ((x = 0 ∨ x = 1) ∧ x = sGo b n A))))) args s 0 0 (zA Γ)) 0 [some (zr 4 w), none] [] G
  refine zs_aload_n (pc := 0) C dX3_readBehindSide_0 rfl ?_
  refine zVip0 (pc := 1) C dX3_readBehindSide_1 v_X3_209 (c_X3_knotHereF hX (by repeat (first | assumption | apply QCw_407 | apply QCw_408 | apply QCw_406 | apply QCw_2037 | apply QCw_2036 | apply QCw_2038 | apply QCw_2039 | apply QCw_2040 | apply QCw_2041 | apply QCw_2042 | apply QCw_2043 | apply QCw_609 | apply QCw_610 | apply QCw_611 | apply QCw_612 | apply QCw_2016 | apply QCw_2017 | apply QCw_2014 | apply QCw_2015 | apply QCw_206 | apply QCw_207 | apply QCw_410 | apply QCw_411 | apply QCw_412 | apply QCw_413 | apply QCw_2025 | refine QC_g (by decide) ?_ | refine QC_sm (by assumption) (by decide) (by decide) ?_))) (by decide) (by decide) ⟨Nat.zero_le _, Nat.zero_le _⟩ (Nat.le_of_ble_eq_true rfl) (fun x1 l1 u1 hp1 => ?_)
  have hq1 := hp1
  have hX1 := hq1.1
  have hB1 := hq1.2
  subst hX1
  refine zs_istore_n (pc := 4) C dX3_readBehindSide_4 (by decide) ?_
  dsimp only [zset, zclr, znone]
  refine zs_iload_n (pc := 5) C dX3_readBehindSide_5 rfl ?_
  refine zs_iconst (pc := 6) C dX3_readBehindSide_6 (by decide) ?_
  refine zs_icmp_eq (tgt := 17) (pc := 7) C dX3_readBehindSide_7 (by decide) (fun h7 => ?_) (fun h7 => ?_)
  · skip
    refine zs_aload_n (pc := 17) C dX3_readBehindSide_17 rfl ?_
    refine zs_geti (r := 411) (pc := 18) C dX3_readBehindSide_18 w_X3_168 f_4_11 rfl (r_411 0) (fun v18 e18 l18 u18 => ?_)
    try simp only [QC_411 hZ] at e18
    try subst v18
    refine zs_if_eq (tgt := 33) (pc := 21) C dX3_readBehindSide_21 (by decide) (fun h21 => ?_) (fun h21 => ?_)
    · skip
      refine zs_aload_n (pc := 33) C dX3_readBehindSide_33 rfl ?_
      refine zs_geti (r := 411) (pc := 34) C dX3_readBehindSide_34 w_X3_168 f_4_11 rfl (r_411 0) (fun v34 e34 l34 u34 => ?_)
      try simp only [QC_411 hZ] at e34
      try subst v34
      refine zs_if_le (tgt := 45) (pc := 37) C dX3_readBehindSide_37 (by decide) (fun h37 => ?_) (fun h37 => ?_)
      · skip
        refine zs_iconst (pc := 45) C dX3_readBehindSide_45 (by decide) ?_
        exact zs_zret (pc := 46) C hr hlk dX3_readBehindSide_46 (by omega) ⟨by repeat (first | exact zsm_rf | assumption | refine zsm_C (by decide) ?_ | refine zsm_I (by decide) ?_ | refine zsm_J ?_ | refine zsm_c (by assumption) (by decide) ?_), ⟨(by unfold sBehind sClose; (repeat' split) <;> first | assumption | (exfalso; omega) | exact (by repeat (first | assumption | apply QCw_407 | apply QCw_408 | apply QCw_406 | apply QCw_2037 | apply QCw_2036 | apply QCw_2038 | apply QCw_2039 | apply QCw_2040 | apply QCw_2041 | apply QCw_2042 | apply QCw_2043 | apply QCw_609 | apply QCw_610 | apply QCw_611 | apply QCw_612 | apply QCw_2016 | apply QCw_2017 | apply QCw_2014 | apply QCw_2015 | apply QCw_206 | apply QCw_207 | apply QCw_410 | apply QCw_411 | apply QCw_412 | apply QCw_413 | apply QCw_2025 | refine QC_g (by decide) ?_ | refine QC_sm (by assumption) (by decide) (by decide) ?_))), ⟨by omega, (by unfold sGo; (repeat' split) <;> omega)⟩⟩⟩
      · skip
        refine zs_aload_n (pc := 40) C dX3_readBehindSide_40 rfl ?_
        refine zs_iconst (pc := 41) C dX3_readBehindSide_41 (by decide) ?_
        refine zVv1 (pc := 42) C dX3_readBehindSide_42 v_X3_114 (c_X3_failF hX (by repeat (first | assumption | apply QCw_407 | apply QCw_408 | apply QCw_406 | apply QCw_2037 | apply QCw_2036 | apply QCw_2038 | apply QCw_2039 | apply QCw_2040 | apply QCw_2041 | apply QCw_2042 | apply QCw_2043 | apply QCw_609 | apply QCw_610 | apply QCw_611 | apply QCw_612 | apply QCw_2016 | apply QCw_2017 | apply QCw_2014 | apply QCw_2015 | apply QCw_206 | apply QCw_207 | apply QCw_410 | apply QCw_411 | apply QCw_412 | apply QCw_413 | apply QCw_2025 | refine QC_g (by decide) ?_ | refine QC_sm (by assumption) (by decide) (by decide) ?_))) (by decide) (by decide) ⟨Nat.zero_le _, Nat.zero_le _⟩ (Nat.le_of_ble_eq_true rfl) (fun G42 hp42 => ?_)
        obtain ⟨hz42, hq42⟩ := hp42
        have hZ42 := hq42
        refine zs_iconst (pc := 45) C dX3_readBehindSide_45 (by decide) ?_
        exact zs_zret (pc := 46) C hr hlk dX3_readBehindSide_46 (by omega) ⟨by repeat (first | exact zsm_rf | assumption | refine zsm_C (by decide) ?_ | refine zsm_I (by decide) ?_ | refine zsm_J ?_ | refine zsm_c (by assumption) (by decide) ?_), ⟨(by unfold sBehind sClose; (repeat' split) <;> first | assumption | (exfalso; omega) | exact (by repeat (first | assumption | apply QCw_407 | apply QCw_408 | apply QCw_406 | apply QCw_2037 | apply QCw_2036 | apply QCw_2038 | apply QCw_2039 | apply QCw_2040 | apply QCw_2041 | apply QCw_2042 | apply QCw_2043 | apply QCw_609 | apply QCw_610 | apply QCw_611 | apply QCw_612 | apply QCw_2016 | apply QCw_2017 | apply QCw_2014 | apply QCw_2015 | apply QCw_206 | apply QCw_207 | apply QCw_410 | apply QCw_411 | apply QCw_412 | apply QCw_413 | apply QCw_2025 | refine QC_g (by decide) ?_ | refine QC_sm (by assumption) (by decide) (by decide) ?_))), ⟨by omega, (by unfold sGo; (repeat' split) <;> omega)⟩⟩⟩
    · skip
      refine zs_aload_n (pc := 24) C dX3_readBehindSide_24 rfl ?_
      refine zs_bipush (pc := 25) C dX3_readBehindSide_25 (by decide) (by decide) ?_
      refine zVip1 (pc := 27) C dX3_readBehindSide_27 v_X3_117 (c_X3_isSignF hX (by repeat (first | assumption | apply QCw_407 | apply QCw_408 | apply QCw_406 | apply QCw_2037 | apply QCw_2036 | apply QCw_2038 | apply QCw_2039 | apply QCw_2040 | apply QCw_2041 | apply QCw_2042 | apply QCw_2043 | apply QCw_609 | apply QCw_610 | apply QCw_611 | apply QCw_612 | apply QCw_2016 | apply QCw_2017 | apply QCw_2014 | apply QCw_2015 | apply QCw_206 | apply QCw_207 | apply QCw_410 | apply QCw_411 | apply QCw_412 | apply QCw_413 | apply QCw_2025 | refine QC_g (by decide) ?_ | refine QC_sm (by assumption) (by decide) (by decide) ?_))) (by decide) (by decide) ⟨Nat.zero_le _, Nat.zero_le _⟩ (Nat.le_of_ble_eq_true rfl) (fun x27 l27 u27 hp27 => ?_)
      have hq27 := hp27
      refine zs_if_ne (tgt := 47) (pc := 30) C dX3_readBehindSide_30 (by decide) (fun h30 => ?_) (fun h30 => ?_)
      · skip
        refine zs_aload_n (pc := 47) C dX3_readBehindSide_47 rfl ?_
        refine zs_iconst (pc := 48) C dX3_readBehindSide_48 (by decide) ?_
        refine zVv1 (pc := 49) C dX3_readBehindSide_49 v_X3_188 (c_X3_releaseF hX (by repeat (first | assumption | apply QCw_407 | apply QCw_408 | apply QCw_406 | apply QCw_2037 | apply QCw_2036 | apply QCw_2038 | apply QCw_2039 | apply QCw_2040 | apply QCw_2041 | apply QCw_2042 | apply QCw_2043 | apply QCw_609 | apply QCw_610 | apply QCw_611 | apply QCw_612 | apply QCw_2016 | apply QCw_2017 | apply QCw_2014 | apply QCw_2015 | apply QCw_206 | apply QCw_207 | apply QCw_410 | apply QCw_411 | apply QCw_412 | apply QCw_413 | apply QCw_2025 | refine QC_g (by decide) ?_ | refine QC_sm (by assumption) (by decide) (by decide) ?_))) (by decide) (by decide) ⟨Nat.zero_le _, Nat.zero_le _⟩ (Nat.le_of_ble_eq_true rfl) (fun G49 hp49 => ?_)
        obtain ⟨hz49, hq49⟩ := hp49
        have hZ49 := hq49
        refine zs_aload_n (pc := 52) C dX3_readBehindSide_52 rfl ?_
        refine zs_iconst (pc := 53) C dX3_readBehindSide_53 (by decide) ?_
        refine zs_aload_n (pc := 54) C dX3_readBehindSide_54 rfl ?_
        refine zs_geti (r := 410) (pc := 55) C dX3_readBehindSide_55 w_X3_165 f_4_10 rfl (r_410 0) (fun v55 e55 l55 u55 => ?_)
        try simp only [QC_410 hZ49, QC_410 hZ] at e55
        try subst v55
        refine zs_iconst (pc := 58) C dX3_readBehindSide_58 (by decide) ?_
        first | refine zs_isub (pc := 59) C dX3_readBehindSide_59 (by omega) ?_ | refine zs_isubF (pc := 59) C dX3_readBehindSide_59 (fun z59 hz591 hz592 => ?_)
        refine zs_maxI (pc := 60) C dX3_readBehindSide_60 s_X3_215 (by decide) (Nat.le_of_ble_eq_true rfl) ⟨Nat.zero_le _, Nat.zero_le _⟩ (fun z60 hz60 => ?_)
        subst hz60
        refine zs_puti (r := 410) (pc := 63) C dX3_readBehindSide_63 w_X3_165 f_4_10 rfl (r_410 0) (by omega) ?_
        refine zs_aload_n (pc := 66) C dX3_readBehindSide_66 rfl ?_
        refine zs_dupa (pc := 67) C dX3_readBehindSide_67 ?_
        refine zs_geti (r := 411) (pc := 68) C dX3_readBehindSide_68 w_X3_168 f_4_11 rfl (r_411 0) (fun v68 e68 l68 u68 => ?_)
        try simp only [zuI_1, zuI_2, zuJ_1, zuJ_2, zuJ_3, zuP_1, zuP_2, zuP_3, zuC_1, zuC_2, reduceIte, Nat.reduceEqDiff, false_and, and_false, true_and, and_true, and_self, or_true, true_or, or_false, false_or] at e68
        try simp only [QC_411 hZ49, QC_411 hZ] at e68
        try subst v68
        refine zs_iconst (pc := 71) C dX3_readBehindSide_71 (by decide) ?_
        first | refine zs_isub (pc := 72) C dX3_readBehindSide_72 (by omega) ?_ | refine zs_isubF (pc := 72) C dX3_readBehindSide_72 (fun z72 hz721 hz722 => ?_)
        refine zs_puti (r := 411) (pc := 73) C dX3_readBehindSide_73 w_X3_168 f_4_11 rfl (r_411 0) (by omega) ?_
        refine zs_aload_n (pc := 76) C dX3_readBehindSide_76 rfl ?_
        refine zVv0 (pc := 77) C dX3_readBehindSide_77 v_X3_51 (c_X3_nextF hX (QN_of (by repeat (first | assumption | apply QCw_407 | apply QCw_408 | apply QCw_406 | apply QCw_2037 | apply QCw_2036 | apply QCw_2038 | apply QCw_2039 | apply QCw_2040 | apply QCw_2041 | apply QCw_2042 | apply QCw_2043 | apply QCw_609 | apply QCw_610 | apply QCw_611 | apply QCw_612 | apply QCw_2016 | apply QCw_2017 | apply QCw_2014 | apply QCw_2015 | apply QCw_206 | apply QCw_207 | apply QCw_410 | apply QCw_411 | apply QCw_412 | apply QCw_413 | apply QCw_2025 | refine QC_g (by decide) ?_ | refine QC_sm (by assumption) (by decide) (by decide) ?_)))) (by decide) (by decide) ⟨Nat.zero_le _, Nat.zero_le _⟩ (Nat.le_of_ble_eq_true rfl) (fun G77 hp77 => ?_)
        obtain ⟨hz77, hq77⟩ := hp77
        try simp only [zuI_1, zuI_2, zuJ_1, zuJ_2, zuJ_3, zuP_1, zuP_2, zuP_3, zuC_1, zuC_2, reduceIte, Nat.reduceEqDiff, false_and, and_false, true_and, and_true, and_self, or_true, true_or, or_false, false_or] at hq77
        have hZ77 := hq77
        refine zs_iconst (pc := 80) C dX3_readBehindSide_80 (by decide) ?_
        exact zs_zret (pc := 81) C hr hlk dX3_readBehindSide_81 (by omega) ⟨by repeat (first | exact zsm_rf | assumption | refine zsm_C (by decide) ?_ | refine zsm_I (by decide) ?_ | refine zsm_J ?_ | refine zsm_c (by assumption) (by decide) ?_), ⟨(by unfold sBehind sClose; (repeat' split) <;> first | assumption | (exfalso; omega) | exact (by repeat (first | assumption | apply QCw_407 | apply QCw_408 | apply QCw_406 | apply QCw_2037 | apply QCw_2036 | apply QCw_2038 | apply QCw_2039 | apply QCw_2040 | apply QCw_2041 | apply QCw_2042 | apply QCw_2043 | apply QCw_609 | apply QCw_610 | apply QCw_611 | apply QCw_612 | apply QCw_2016 | apply QCw_2017 | apply QCw_2014 | apply QCw_2015 | apply QCw_206 | apply QCw_207 | apply QCw_410 | apply QCw_411 | apply QCw_412 | apply QCw_413 | apply QCw_2025 | refine QC_g (by decide) ?_ | refine QC_sm (by assumption) (by decide) (by decide) ?_))), ⟨by omega, (by unfold sGo; (repeat' split) <;> omega)⟩⟩⟩
      · skip
        refine zs_aload_n (pc := 33) C dX3_readBehindSide_33 rfl ?_
        refine zs_geti (r := 411) (pc := 34) C dX3_readBehindSide_34 w_X3_168 f_4_11 rfl (r_411 0) (fun v34 e34 l34 u34 => ?_)
        try simp only [QC_411 hZ] at e34
        try subst v34
        refine zs_if_le (tgt := 45) (pc := 37) C dX3_readBehindSide_37 (by decide) (fun h37 => ?_) (fun h37 => ?_)
        · skip
          refine zs_iconst (pc := 45) C dX3_readBehindSide_45 (by decide) ?_
          exact zs_zret (pc := 46) C hr hlk dX3_readBehindSide_46 (by omega) ⟨by repeat (first | exact zsm_rf | assumption | refine zsm_C (by decide) ?_ | refine zsm_I (by decide) ?_ | refine zsm_J ?_ | refine zsm_c (by assumption) (by decide) ?_), ⟨(by unfold sBehind sClose; (repeat' split) <;> first | assumption | (exfalso; omega) | exact (by repeat (first | assumption | apply QCw_407 | apply QCw_408 | apply QCw_406 | apply QCw_2037 | apply QCw_2036 | apply QCw_2038 | apply QCw_2039 | apply QCw_2040 | apply QCw_2041 | apply QCw_2042 | apply QCw_2043 | apply QCw_609 | apply QCw_610 | apply QCw_611 | apply QCw_612 | apply QCw_2016 | apply QCw_2017 | apply QCw_2014 | apply QCw_2015 | apply QCw_206 | apply QCw_207 | apply QCw_410 | apply QCw_411 | apply QCw_412 | apply QCw_413 | apply QCw_2025 | refine QC_g (by decide) ?_ | refine QC_sm (by assumption) (by decide) (by decide) ?_))), ⟨by omega, (by unfold sGo; (repeat' split) <;> omega)⟩⟩⟩
        · skip
          refine zs_aload_n (pc := 40) C dX3_readBehindSide_40 rfl ?_
          refine zs_iconst (pc := 41) C dX3_readBehindSide_41 (by decide) ?_
          refine zVv1 (pc := 42) C dX3_readBehindSide_42 v_X3_114 (c_X3_failF hX (by repeat (first | assumption | apply QCw_407 | apply QCw_408 | apply QCw_406 | apply QCw_2037 | apply QCw_2036 | apply QCw_2038 | apply QCw_2039 | apply QCw_2040 | apply QCw_2041 | apply QCw_2042 | apply QCw_2043 | apply QCw_609 | apply QCw_610 | apply QCw_611 | apply QCw_612 | apply QCw_2016 | apply QCw_2017 | apply QCw_2014 | apply QCw_2015 | apply QCw_206 | apply QCw_207 | apply QCw_410 | apply QCw_411 | apply QCw_412 | apply QCw_413 | apply QCw_2025 | refine QC_g (by decide) ?_ | refine QC_sm (by assumption) (by decide) (by decide) ?_))) (by decide) (by decide) ⟨Nat.zero_le _, Nat.zero_le _⟩ (Nat.le_of_ble_eq_true rfl) (fun G42 hp42 => ?_)
          obtain ⟨hz42, hq42⟩ := hp42
          have hZ42 := hq42
          refine zs_iconst (pc := 45) C dX3_readBehindSide_45 (by decide) ?_
          exact zs_zret (pc := 46) C hr hlk dX3_readBehindSide_46 (by omega) ⟨by repeat (first | exact zsm_rf | assumption | refine zsm_C (by decide) ?_ | refine zsm_I (by decide) ?_ | refine zsm_J ?_ | refine zsm_c (by assumption) (by decide) ?_), ⟨(by unfold sBehind sClose; (repeat' split) <;> first | assumption | (exfalso; omega) | exact (by repeat (first | assumption | apply QCw_407 | apply QCw_408 | apply QCw_406 | apply QCw_2037 | apply QCw_2036 | apply QCw_2038 | apply QCw_2039 | apply QCw_2040 | apply QCw_2041 | apply QCw_2042 | apply QCw_2043 | apply QCw_609 | apply QCw_610 | apply QCw_611 | apply QCw_612 | apply QCw_2016 | apply QCw_2017 | apply QCw_2014 | apply QCw_2015 | apply QCw_206 | apply QCw_207 | apply QCw_410 | apply QCw_411 | apply QCw_412 | apply QCw_413 | apply QCw_2025 | refine QC_g (by decide) ?_ | refine QC_sm (by assumption) (by decide) (by decide) ?_))), ⟨by omega, (by unfold sGo; (repeat' split) <;> omega)⟩⟩⟩
  · skip
    refine zs_aload_n (pc := 10) C dX3_readBehindSide_10 rfl ?_
    refine zs_iload_n (pc := 11) C dX3_readBehindSide_11 rfl ?_
    refine zVv1 (pc := 12) C dX3_readBehindSide_12 v_X3_212 (c_X3_readJointF hX (by repeat (first | assumption | apply QCw_407 | apply QCw_408 | apply QCw_406 | apply QCw_2037 | apply QCw_2036 | apply QCw_2038 | apply QCw_2039 | apply QCw_2040 | apply QCw_2041 | apply QCw_2042 | apply QCw_2043 | apply QCw_609 | apply QCw_610 | apply QCw_611 | apply QCw_612 | apply QCw_2016 | apply QCw_2017 | apply QCw_2014 | apply QCw_2015 | apply QCw_206 | apply QCw_207 | apply QCw_410 | apply QCw_411 | apply QCw_412 | apply QCw_413 | apply QCw_2025 | refine QC_g (by decide) ?_ | refine QC_sm (by assumption) (by decide) (by decide) ?_)) (by omega)) (by decide) (by decide) ⟨Nat.zero_le _, Nat.zero_le _⟩ (Nat.le_of_ble_eq_true rfl) (fun G12 hp12 => ?_)
    obtain ⟨hz12, hq12⟩ := hp12
    have hZ12 := hq12
    refine zs_iconst (pc := 15) C dX3_readBehindSide_15 (by decide) ?_
    exact zs_zret (pc := 16) C hr hlk dX3_readBehindSide_16 (by omega) ⟨by repeat (first | exact zsm_rf | assumption | refine zsm_C (by decide) ?_ | refine zsm_I (by decide) ?_ | refine zsm_J ?_ | refine zsm_c (by assumption) (by decide) ?_), ⟨(by unfold sBehind sClose; (repeat' split) <;> first | assumption | (exfalso; omega) | exact (by repeat (first | assumption | apply QCw_407 | apply QCw_408 | apply QCw_406 | apply QCw_2037 | apply QCw_2036 | apply QCw_2038 | apply QCw_2039 | apply QCw_2040 | apply QCw_2041 | apply QCw_2042 | apply QCw_2043 | apply QCw_609 | apply QCw_610 | apply QCw_611 | apply QCw_612 | apply QCw_2016 | apply QCw_2017 | apply QCw_2014 | apply QCw_2015 | apply QCw_206 | apply QCw_207 | apply QCw_410 | apply QCw_411 | apply QCw_412 | apply QCw_413 | apply QCw_2025 | refine QC_g (by decide) ?_ | refine QC_sm (by assumption) (by decide) (by decide) ?_))), ⟨by omega, (by unfold sGo; (repeat' split) <;> omega)⟩⟩⟩

set_option maxHeartbeats 4000000 in
set_option maxRecDepth 100000 in
theorem c_X3_readSideF {l : Launch} {Γ : zΓ} {G : zH} {w t : Nat} {b : Nat → Int} {n : Int} {N : Nat} {A : aS}  (hX : zXs Γ) (hZ : QC b n N Γ w t A G)  : zMet l Γ yX3_readSide cX3_readSide 1 none 3 [zr 4 w] G (zpv (fun G' => zsm [402, 403, 404, 405, 406, 407, 408, 409, 410, 411, 412, 413, 2025, 206, 207, 2014, 2015, 2016, 2017, 2036, 2037, 2038, 2039, 2040, 2041, 2042, 2043, 609, 610, 611, 612] G G' ∧ QC b n N Γ w t (sSide b n A) G')) := by
  have hI := QC_t hZ
  have q404 := QC_404 hZ
  have f2 := sFail_f (b := b) (n := n) (A := A) (show (2 : Int) ≠ 0 by decide)
  refine zMet_of RX3 hX (by decide) rfl (Nat.le_of_ble_eq_true rfl) ?_
  intro p e s m args below meth c C hr hlk
  show Z p l e (zrm 3) s m args below meth c Γ 1 0 0 (MQ below (zQc Γ (zpv (fun G' => zsm [402, 403, 404, 405, 406, 407, 408, 409, 410, 411, 412, 413, 2025, 206, 207, 2014, 2015, 2016, 2017, 2036, 2037, 2038, 2039, 2040, 2041, 2042, 2043, 609, 610, 611, 612] G G' ∧ QC b n N Γ w t (sSide b n A) G'))) args s 0 0 (zA Γ)) 0 [some (zr 4 w)] [] G
  refine zs_aload_n (pc := 0) C dX3_readSide_0 rfl ?_
  refine zs_bipush (pc := 1) C dX3_readSide_1 (by decide) (by decide) ?_
  refine zVip1 (pc := 3) C dX3_readSide_3 v_X3_117 (c_X3_isSignF hX (by repeat (first | assumption | apply QCw_407 | apply QCw_408 | apply QCw_406 | apply QCw_2037 | apply QCw_2036 | apply QCw_2038 | apply QCw_2039 | apply QCw_2040 | apply QCw_2041 | apply QCw_2042 | apply QCw_2043 | apply QCw_609 | apply QCw_610 | apply QCw_611 | apply QCw_612 | apply QCw_2016 | apply QCw_2017 | apply QCw_2014 | apply QCw_2015 | apply QCw_206 | apply QCw_207 | apply QCw_410 | apply QCw_411 | apply QCw_412 | apply QCw_413 | apply QCw_2025 | refine QC_g (by decide) ?_ | refine QC_sm (by assumption) (by decide) (by decide) ?_))) (by decide) (by decide) ⟨Nat.zero_le _, Nat.zero_le _⟩ (Nat.le_of_ble_eq_true rfl) (fun x3 l3 u3 hp3 => ?_)
  have hq3 := hp3
  refine zs_if_eq (tgt := 16) (pc := 6) C dX3_readSide_6 (by decide) (fun h6 => ?_) (fun h6 => ?_)
  · skip
    refine zs_aload_n (pc := 16) C dX3_readSide_16 rfl ?_
    refine zs_geti (r := 405) (pc := 17) C dX3_readSide_17 w_X3_70 f_4_5 rfl (r_405 0) (fun v17 e17 l17 u17 => ?_)
    try simp only [QC_405 hZ] at e17
    try subst v17
    refine zs_bipush (pc := 20) C dX3_readSide_20 (by decide) (by decide) ?_
    refine zs_icmp_ne (tgt := 47) (pc := 22) C dX3_readSide_22 (by decide) (fun h22 => ?_) (fun h22 => ?_)
    · skip
      refine zs_aload_n (pc := 47) C dX3_readSide_47 rfl ?_
      refine zs_geti (r := 403) (pc := 48) C dX3_readSide_48 w_X3_54 f_4_3 rfl (r_403 0) (fun v48 e48 l48 u48 => ?_)
      try simp only [QC_403 hZ] at e48
      try subst v48
      refine zs_iconst (pc := 51) C dX3_readSide_51 (by decide) ?_
      refine zs_icmp_ne (tgt := 82) (pc := 52) C dX3_readSide_52 (by decide) (fun h52 => ?_) (fun h52 => ?_)
      · skip
        refine zs_aload_n (pc := 82) C dX3_readSide_82 rfl ?_
        refine zs_geti (r := 405) (pc := 83) C dX3_readSide_83 w_X3_70 f_4_5 rfl (r_405 0) (fun v83 e83 l83 u83 => ?_)
        try simp only [QC_405 hZ] at e83
        try subst v83
        refine zs_bipush (pc := 86) C dX3_readSide_86 (by decide) (by decide) ?_
        refine zs_icmp_lt (tgt := 106) (pc := 88) C dX3_readSide_88 (by decide) (fun h88 => ?_) (fun h88 => ?_)
        · skip
          refine zs_aload_n (pc := 106) C dX3_readSide_106 rfl ?_
          refine zs_iconst (pc := 107) C dX3_readSide_107 (by decide) ?_
          refine zVv1 (pc := 108) C dX3_readSide_108 v_X3_114 (c_X3_failF hX (by repeat (first | assumption | apply QCw_407 | apply QCw_408 | apply QCw_406 | apply QCw_2037 | apply QCw_2036 | apply QCw_2038 | apply QCw_2039 | apply QCw_2040 | apply QCw_2041 | apply QCw_2042 | apply QCw_2043 | apply QCw_609 | apply QCw_610 | apply QCw_611 | apply QCw_612 | apply QCw_2016 | apply QCw_2017 | apply QCw_2014 | apply QCw_2015 | apply QCw_206 | apply QCw_207 | apply QCw_410 | apply QCw_411 | apply QCw_412 | apply QCw_413 | apply QCw_2025 | refine QC_g (by decide) ?_ | refine QC_sm (by assumption) (by decide) (by decide) ?_))) (by decide) (by decide) ⟨Nat.zero_le _, Nat.zero_le _⟩ (Nat.le_of_ble_eq_true rfl) (fun G108 hp108 => ?_)
          obtain ⟨hz108, hq108⟩ := hp108
          have hZ108 := hq108
          exact zs_vret (pc := 111) C hr hlk dX3_readSide_111 ⟨by repeat (first | exact zsm_rf | assumption | refine zsm_C (by decide) ?_ | refine zsm_I (by decide) ?_ | refine zsm_J ?_ | refine zsm_c (by assumption) (by decide) ?_), by unfold sSide sNot; (repeat' split) <;> first | assumption | (exfalso; omega) | exact (by repeat (first | assumption | apply QCw_407 | apply QCw_408 | apply QCw_406 | apply QCw_2037 | apply QCw_2036 | apply QCw_2038 | apply QCw_2039 | apply QCw_2040 | apply QCw_2041 | apply QCw_2042 | apply QCw_2043 | apply QCw_609 | apply QCw_610 | apply QCw_611 | apply QCw_612 | apply QCw_2016 | apply QCw_2017 | apply QCw_2014 | apply QCw_2015 | apply QCw_206 | apply QCw_207 | apply QCw_410 | apply QCw_411 | apply QCw_412 | apply QCw_413 | apply QCw_2025 | refine QC_g (by decide) ?_ | refine QC_sm (by assumption) (by decide) (by decide) ?_))⟩
        · skip
          refine zs_aload_n (pc := 91) C dX3_readSide_91 rfl ?_
          refine zs_iconst (pc := 92) C dX3_readSide_92 (by decide) ?_
          refine zs_aload_n (pc := 93) C dX3_readSide_93 rfl ?_
          refine zs_geti (r := 405) (pc := 94) C dX3_readSide_94 w_X3_70 f_4_5 rfl (r_405 0) (fun v94 e94 l94 u94 => ?_)
          try simp only [QC_405 hZ] at e94
          try subst v94
          refine zs_bipush (pc := 97) C dX3_readSide_97 (by decide) (by decide) ?_
          first | refine zs_isub (pc := 99) C dX3_readSide_99 (by omega) ?_ | refine zs_isubF (pc := 99) C dX3_readSide_99 (fun z99 hz991 hz992 => ?_)
          refine zVv2 (pc := 100) C dX3_readSide_100 v_X3_203 (c_X3_writeSideF hX (by repeat (first | assumption | apply QCw_407 | apply QCw_408 | apply QCw_406 | apply QCw_2037 | apply QCw_2036 | apply QCw_2038 | apply QCw_2039 | apply QCw_2040 | apply QCw_2041 | apply QCw_2042 | apply QCw_2043 | apply QCw_609 | apply QCw_610 | apply QCw_611 | apply QCw_612 | apply QCw_2016 | apply QCw_2017 | apply QCw_2014 | apply QCw_2015 | apply QCw_206 | apply QCw_207 | apply QCw_410 | apply QCw_411 | apply QCw_412 | apply QCw_413 | apply QCw_2025 | refine QC_g (by decide) ?_ | refine QC_sm (by assumption) (by decide) (by decide) ?_))) (by decide) (by decide) ⟨Nat.zero_le _, Nat.zero_le _⟩ (Nat.le_of_ble_eq_true rfl) (fun G100 hp100 => ?_)
          obtain ⟨hz100, hq100⟩ := hp100
          have hZ100 := hq100
          refine zs_goto (tgt := 111) (pc := 103) C dX3_readSide_103 (by decide) ?_
          exact zs_vret (pc := 111) C hr hlk dX3_readSide_111 ⟨by repeat (first | exact zsm_rf | assumption | refine zsm_C (by decide) ?_ | refine zsm_I (by decide) ?_ | refine zsm_J ?_ | refine zsm_c (by assumption) (by decide) ?_), by unfold sSide sNot; (repeat' split) <;> first | assumption | (exfalso; omega) | exact (by repeat (first | assumption | apply QCw_407 | apply QCw_408 | apply QCw_406 | apply QCw_2037 | apply QCw_2036 | apply QCw_2038 | apply QCw_2039 | apply QCw_2040 | apply QCw_2041 | apply QCw_2042 | apply QCw_2043 | apply QCw_609 | apply QCw_610 | apply QCw_611 | apply QCw_612 | apply QCw_2016 | apply QCw_2017 | apply QCw_2014 | apply QCw_2015 | apply QCw_206 | apply QCw_207 | apply QCw_410 | apply QCw_411 | apply QCw_412 | apply QCw_413 | apply QCw_2025 | refine QC_g (by decide) ?_ | refine QC_sm (by assumption) (by decide) (by decide) ?_))⟩
      · skip
        refine zs_aload_n (pc := 55) C dX3_readSide_55 rfl ?_
        refine zs_geti (r := 404) (pc := 56) C dX3_readSide_56 w_X3_68 f_4_4 rfl (r_404 0) (fun v56 e56 l56 u56 => ?_)
        refine zs_sipush (pc := 59) C dX3_readSide_59 (by decide) (by decide) ?_
        refine zs_icmp_le (tgt := 70) (pc := 62) C dX3_readSide_62 (by decide) (fun h62 => ?_) (fun h62 => ?_)
        · skip
          refine zs_aload_n (pc := 70) C dX3_readSide_70 rfl ?_
          refine zs_iconst (pc := 71) C dX3_readSide_71 (by decide) ?_
          refine zs_aload_n (pc := 72) C dX3_readSide_72 rfl ?_
          refine zs_geti (r := 404) (pc := 73) C dX3_readSide_73 w_X3_68 f_4_4 rfl (r_404 0) (fun v73 e73 l73 u73 => ?_)
          first | (have h73 : v73 = tV b n A := (by omega); subst h73) | skip
          refine zVv2 (pc := 76) C dX3_readSide_76 v_X3_203 (c_X3_writeSideF hX (by repeat (first | assumption | apply QCw_407 | apply QCw_408 | apply QCw_406 | apply QCw_2037 | apply QCw_2036 | apply QCw_2038 | apply QCw_2039 | apply QCw_2040 | apply QCw_2041 | apply QCw_2042 | apply QCw_2043 | apply QCw_609 | apply QCw_610 | apply QCw_611 | apply QCw_612 | apply QCw_2016 | apply QCw_2017 | apply QCw_2014 | apply QCw_2015 | apply QCw_206 | apply QCw_207 | apply QCw_410 | apply QCw_411 | apply QCw_412 | apply QCw_413 | apply QCw_2025 | refine QC_g (by decide) ?_ | refine QC_sm (by assumption) (by decide) (by decide) ?_))) (by decide) (by decide) ⟨Nat.zero_le _, Nat.zero_le _⟩ (Nat.le_of_ble_eq_true rfl) (fun G76 hp76 => ?_)
          obtain ⟨hz76, hq76⟩ := hp76
          have hZ76 := hq76
          try (have hL := sLeaf_ne (b := b) (n := n) (k := 0) (q := v73) (q' := tV b n A) f2; rw [hL] at hZ76)
          refine zs_goto (tgt := 111) (pc := 79) C dX3_readSide_79 (by decide) ?_
          exact zs_vret (pc := 111) C hr hlk dX3_readSide_111 ⟨by repeat (first | exact zsm_rf | assumption | refine zsm_C (by decide) ?_ | refine zsm_I (by decide) ?_ | refine zsm_J ?_ | refine zsm_c (by assumption) (by decide) ?_), by unfold sSide sNot; (repeat' split) <;> first | assumption | (exfalso; omega) | exact (by repeat (first | assumption | apply QCw_407 | apply QCw_408 | apply QCw_406 | apply QCw_2037 | apply QCw_2036 | apply QCw_2038 | apply QCw_2039 | apply QCw_2040 | apply QCw_2041 | apply QCw_2042 | apply QCw_2043 | apply QCw_609 | apply QCw_610 | apply QCw_611 | apply QCw_612 | apply QCw_2016 | apply QCw_2017 | apply QCw_2014 | apply QCw_2015 | apply QCw_206 | apply QCw_207 | apply QCw_410 | apply QCw_411 | apply QCw_412 | apply QCw_413 | apply QCw_2025 | refine QC_g (by decide) ?_ | refine QC_sm (by assumption) (by decide) (by decide) ?_))⟩
        · skip
          refine zs_aload_n (pc := 65) C dX3_readSide_65 rfl ?_
          refine zs_iconst (pc := 66) C dX3_readSide_66 (by decide) ?_
          refine zVv1 (pc := 67) C dX3_readSide_67 v_X3_114 (c_X3_failF hX (by repeat (first | assumption | apply QCw_407 | apply QCw_408 | apply QCw_406 | apply QCw_2037 | apply QCw_2036 | apply QCw_2038 | apply QCw_2039 | apply QCw_2040 | apply QCw_2041 | apply QCw_2042 | apply QCw_2043 | apply QCw_609 | apply QCw_610 | apply QCw_611 | apply QCw_612 | apply QCw_2016 | apply QCw_2017 | apply QCw_2014 | apply QCw_2015 | apply QCw_206 | apply QCw_207 | apply QCw_410 | apply QCw_411 | apply QCw_412 | apply QCw_413 | apply QCw_2025 | refine QC_g (by decide) ?_ | refine QC_sm (by assumption) (by decide) (by decide) ?_))) (by decide) (by decide) ⟨Nat.zero_le _, Nat.zero_le _⟩ (Nat.le_of_ble_eq_true rfl) (fun G67 hp67 => ?_)
          obtain ⟨hz67, hq67⟩ := hp67
          have hZ67 := hq67
          refine zs_aload_n (pc := 70) C dX3_readSide_70 rfl ?_
          refine zs_iconst (pc := 71) C dX3_readSide_71 (by decide) ?_
          refine zs_aload_n (pc := 72) C dX3_readSide_72 rfl ?_
          refine zs_geti (r := 404) (pc := 73) C dX3_readSide_73 w_X3_68 f_4_4 rfl (r_404 0) (fun v73 e73 l73 u73 => ?_)
          first | (have h73 : v73 = tV b n A := (by omega); subst h73) | skip
          refine zVv2 (pc := 76) C dX3_readSide_76 v_X3_203 (c_X3_writeSideF hX (by repeat (first | assumption | apply QCw_407 | apply QCw_408 | apply QCw_406 | apply QCw_2037 | apply QCw_2036 | apply QCw_2038 | apply QCw_2039 | apply QCw_2040 | apply QCw_2041 | apply QCw_2042 | apply QCw_2043 | apply QCw_609 | apply QCw_610 | apply QCw_611 | apply QCw_612 | apply QCw_2016 | apply QCw_2017 | apply QCw_2014 | apply QCw_2015 | apply QCw_206 | apply QCw_207 | apply QCw_410 | apply QCw_411 | apply QCw_412 | apply QCw_413 | apply QCw_2025 | refine QC_g (by decide) ?_ | refine QC_sm (by assumption) (by decide) (by decide) ?_))) (by decide) (by decide) ⟨Nat.zero_le _, Nat.zero_le _⟩ (Nat.le_of_ble_eq_true rfl) (fun G76 hp76 => ?_)
          obtain ⟨hz76, hq76⟩ := hp76
          have hZ76 := hq76
          try (have hL := sLeaf_ne (b := b) (n := n) (k := 0) (q := v73) (q' := tV b n A) f2; rw [hL] at hZ76)
          refine zs_goto (tgt := 111) (pc := 79) C dX3_readSide_79 (by decide) ?_
          exact zs_vret (pc := 111) C hr hlk dX3_readSide_111 ⟨by repeat (first | exact zsm_rf | assumption | refine zsm_C (by decide) ?_ | refine zsm_I (by decide) ?_ | refine zsm_J ?_ | refine zsm_c (by assumption) (by decide) ?_), by unfold sSide sNot; (repeat' split) <;> first | assumption | (exfalso; omega) | exact (by repeat (first | assumption | apply QCw_407 | apply QCw_408 | apply QCw_406 | apply QCw_2037 | apply QCw_2036 | apply QCw_2038 | apply QCw_2039 | apply QCw_2040 | apply QCw_2041 | apply QCw_2042 | apply QCw_2043 | apply QCw_609 | apply QCw_610 | apply QCw_611 | apply QCw_612 | apply QCw_2016 | apply QCw_2017 | apply QCw_2014 | apply QCw_2015 | apply QCw_206 | apply QCw_207 | apply QCw_410 | apply QCw_411 | apply QCw_412 | apply QCw_413 | apply QCw_2025 | refine QC_g (by decide) ?_ | refine QC_sm (by assumption) (by decide) (by decide) ?_))⟩
    · skip
      refine zs_aload_n (pc := 25) C dX3_readSide_25 rfl ?_
      refine zs_getz (r := 413) (pc := 26) C dX3_readSide_26 w_X3_175 f_4_13 rfl (r_413 0) (fun v26 e26 l26 u26 => ?_)
      try simp only [QC_413 hZ] at e26
      try subst v26
      refine zs_if_eq (tgt := 47) (pc := 29) C dX3_readSide_29 (by decide) (fun h29 => ?_) (fun h29 => ?_)
      · skip
        refine zs_aload_n (pc := 47) C dX3_readSide_47 rfl ?_
        refine zs_geti (r := 403) (pc := 48) C dX3_readSide_48 w_X3_54 f_4_3 rfl (r_403 0) (fun v48 e48 l48 u48 => ?_)
        try simp only [QC_403 hZ] at e48
        try subst v48
        refine zs_iconst (pc := 51) C dX3_readSide_51 (by decide) ?_
        refine zs_icmp_ne (tgt := 82) (pc := 52) C dX3_readSide_52 (by decide) (fun h52 => ?_) (fun h52 => ?_)
        · skip
          refine zs_aload_n (pc := 82) C dX3_readSide_82 rfl ?_
          refine zs_geti (r := 405) (pc := 83) C dX3_readSide_83 w_X3_70 f_4_5 rfl (r_405 0) (fun v83 e83 l83 u83 => ?_)
          try simp only [QC_405 hZ] at e83
          try subst v83
          refine zs_bipush (pc := 86) C dX3_readSide_86 (by decide) (by decide) ?_
          refine zs_icmp_lt (tgt := 106) (pc := 88) C dX3_readSide_88 (by decide) (fun h88 => ?_) (fun h88 => ?_)
          · skip
            refine zs_aload_n (pc := 106) C dX3_readSide_106 rfl ?_
            refine zs_iconst (pc := 107) C dX3_readSide_107 (by decide) ?_
            refine zVv1 (pc := 108) C dX3_readSide_108 v_X3_114 (c_X3_failF hX (by repeat (first | assumption | apply QCw_407 | apply QCw_408 | apply QCw_406 | apply QCw_2037 | apply QCw_2036 | apply QCw_2038 | apply QCw_2039 | apply QCw_2040 | apply QCw_2041 | apply QCw_2042 | apply QCw_2043 | apply QCw_609 | apply QCw_610 | apply QCw_611 | apply QCw_612 | apply QCw_2016 | apply QCw_2017 | apply QCw_2014 | apply QCw_2015 | apply QCw_206 | apply QCw_207 | apply QCw_410 | apply QCw_411 | apply QCw_412 | apply QCw_413 | apply QCw_2025 | refine QC_g (by decide) ?_ | refine QC_sm (by assumption) (by decide) (by decide) ?_))) (by decide) (by decide) ⟨Nat.zero_le _, Nat.zero_le _⟩ (Nat.le_of_ble_eq_true rfl) (fun G108 hp108 => ?_)
            obtain ⟨hz108, hq108⟩ := hp108
            have hZ108 := hq108
            exact zs_vret (pc := 111) C hr hlk dX3_readSide_111 ⟨by repeat (first | exact zsm_rf | assumption | refine zsm_C (by decide) ?_ | refine zsm_I (by decide) ?_ | refine zsm_J ?_ | refine zsm_c (by assumption) (by decide) ?_), by unfold sSide sNot; (repeat' split) <;> first | assumption | (exfalso; omega) | exact (by repeat (first | assumption | apply QCw_407 | apply QCw_408 | apply QCw_406 | apply QCw_2037 | apply QCw_2036 | apply QCw_2038 | apply QCw_2039 | apply QCw_2040 | apply QCw_2041 | apply QCw_2042 | apply QCw_2043 | apply QCw_609 | apply QCw_610 | apply QCw_611 | apply QCw_612 | apply QCw_2016 | apply QCw_2017 | apply QCw_2014 | apply QCw_2015 | apply QCw_206 | apply QCw_207 | apply QCw_410 | apply QCw_411 | apply QCw_412 | apply QCw_413 | apply QCw_2025 | refine QC_g (by decide) ?_ | refine QC_sm (by assumption) (by decide) (by decide) ?_))⟩
          · skip
            refine zs_aload_n (pc := 91) C dX3_readSide_91 rfl ?_
            refine zs_iconst (pc := 92) C dX3_readSide_92 (by decide) ?_
            refine zs_aload_n (pc := 93) C dX3_readSide_93 rfl ?_
            refine zs_geti (r := 405) (pc := 94) C dX3_readSide_94 w_X3_70 f_4_5 rfl (r_405 0) (fun v94 e94 l94 u94 => ?_)
            try simp only [QC_405 hZ] at e94
            try subst v94
            refine zs_bipush (pc := 97) C dX3_readSide_97 (by decide) (by decide) ?_
            first | refine zs_isub (pc := 99) C dX3_readSide_99 (by omega) ?_ | refine zs_isubF (pc := 99) C dX3_readSide_99 (fun z99 hz991 hz992 => ?_)
            refine zVv2 (pc := 100) C dX3_readSide_100 v_X3_203 (c_X3_writeSideF hX (by repeat (first | assumption | apply QCw_407 | apply QCw_408 | apply QCw_406 | apply QCw_2037 | apply QCw_2036 | apply QCw_2038 | apply QCw_2039 | apply QCw_2040 | apply QCw_2041 | apply QCw_2042 | apply QCw_2043 | apply QCw_609 | apply QCw_610 | apply QCw_611 | apply QCw_612 | apply QCw_2016 | apply QCw_2017 | apply QCw_2014 | apply QCw_2015 | apply QCw_206 | apply QCw_207 | apply QCw_410 | apply QCw_411 | apply QCw_412 | apply QCw_413 | apply QCw_2025 | refine QC_g (by decide) ?_ | refine QC_sm (by assumption) (by decide) (by decide) ?_))) (by decide) (by decide) ⟨Nat.zero_le _, Nat.zero_le _⟩ (Nat.le_of_ble_eq_true rfl) (fun G100 hp100 => ?_)
            obtain ⟨hz100, hq100⟩ := hp100
            have hZ100 := hq100
            refine zs_goto (tgt := 111) (pc := 103) C dX3_readSide_103 (by decide) ?_
            exact zs_vret (pc := 111) C hr hlk dX3_readSide_111 ⟨by repeat (first | exact zsm_rf | assumption | refine zsm_C (by decide) ?_ | refine zsm_I (by decide) ?_ | refine zsm_J ?_ | refine zsm_c (by assumption) (by decide) ?_), by unfold sSide sNot; (repeat' split) <;> first | assumption | (exfalso; omega) | exact (by repeat (first | assumption | apply QCw_407 | apply QCw_408 | apply QCw_406 | apply QCw_2037 | apply QCw_2036 | apply QCw_2038 | apply QCw_2039 | apply QCw_2040 | apply QCw_2041 | apply QCw_2042 | apply QCw_2043 | apply QCw_609 | apply QCw_610 | apply QCw_611 | apply QCw_612 | apply QCw_2016 | apply QCw_2017 | apply QCw_2014 | apply QCw_2015 | apply QCw_206 | apply QCw_207 | apply QCw_410 | apply QCw_411 | apply QCw_412 | apply QCw_413 | apply QCw_2025 | refine QC_g (by decide) ?_ | refine QC_sm (by assumption) (by decide) (by decide) ?_))⟩
        · skip
          refine zs_aload_n (pc := 55) C dX3_readSide_55 rfl ?_
          refine zs_geti (r := 404) (pc := 56) C dX3_readSide_56 w_X3_68 f_4_4 rfl (r_404 0) (fun v56 e56 l56 u56 => ?_)
          refine zs_sipush (pc := 59) C dX3_readSide_59 (by decide) (by decide) ?_
          refine zs_icmp_le (tgt := 70) (pc := 62) C dX3_readSide_62 (by decide) (fun h62 => ?_) (fun h62 => ?_)
          · skip
            refine zs_aload_n (pc := 70) C dX3_readSide_70 rfl ?_
            refine zs_iconst (pc := 71) C dX3_readSide_71 (by decide) ?_
            refine zs_aload_n (pc := 72) C dX3_readSide_72 rfl ?_
            refine zs_geti (r := 404) (pc := 73) C dX3_readSide_73 w_X3_68 f_4_4 rfl (r_404 0) (fun v73 e73 l73 u73 => ?_)
            first | (have h73 : v73 = tV b n A := (by omega); subst h73) | skip
            refine zVv2 (pc := 76) C dX3_readSide_76 v_X3_203 (c_X3_writeSideF hX (by repeat (first | assumption | apply QCw_407 | apply QCw_408 | apply QCw_406 | apply QCw_2037 | apply QCw_2036 | apply QCw_2038 | apply QCw_2039 | apply QCw_2040 | apply QCw_2041 | apply QCw_2042 | apply QCw_2043 | apply QCw_609 | apply QCw_610 | apply QCw_611 | apply QCw_612 | apply QCw_2016 | apply QCw_2017 | apply QCw_2014 | apply QCw_2015 | apply QCw_206 | apply QCw_207 | apply QCw_410 | apply QCw_411 | apply QCw_412 | apply QCw_413 | apply QCw_2025 | refine QC_g (by decide) ?_ | refine QC_sm (by assumption) (by decide) (by decide) ?_))) (by decide) (by decide) ⟨Nat.zero_le _, Nat.zero_le _⟩ (Nat.le_of_ble_eq_true rfl) (fun G76 hp76 => ?_)
            obtain ⟨hz76, hq76⟩ := hp76
            have hZ76 := hq76
            try (have hL := sLeaf_ne (b := b) (n := n) (k := 0) (q := v73) (q' := tV b n A) f2; rw [hL] at hZ76)
            refine zs_goto (tgt := 111) (pc := 79) C dX3_readSide_79 (by decide) ?_
            exact zs_vret (pc := 111) C hr hlk dX3_readSide_111 ⟨by repeat (first | exact zsm_rf | assumption | refine zsm_C (by decide) ?_ | refine zsm_I (by decide) ?_ | refine zsm_J ?_ | refine zsm_c (by assumption) (by decide) ?_), by unfold sSide sNot; (repeat' split) <;> first | assumption | (exfalso; omega) | exact (by repeat (first | assumption | apply QCw_407 | apply QCw_408 | apply QCw_406 | apply QCw_2037 | apply QCw_2036 | apply QCw_2038 | apply QCw_2039 | apply QCw_2040 | apply QCw_2041 | apply QCw_2042 | apply QCw_2043 | apply QCw_609 | apply QCw_610 | apply QCw_611 | apply QCw_612 | apply QCw_2016 | apply QCw_2017 | apply QCw_2014 | apply QCw_2015 | apply QCw_206 | apply QCw_207 | apply QCw_410 | apply QCw_411 | apply QCw_412 | apply QCw_413 | apply QCw_2025 | refine QC_g (by decide) ?_ | refine QC_sm (by assumption) (by decide) (by decide) ?_))⟩
          · skip
            refine zs_aload_n (pc := 65) C dX3_readSide_65 rfl ?_
            refine zs_iconst (pc := 66) C dX3_readSide_66 (by decide) ?_
            refine zVv1 (pc := 67) C dX3_readSide_67 v_X3_114 (c_X3_failF hX (by repeat (first | assumption | apply QCw_407 | apply QCw_408 | apply QCw_406 | apply QCw_2037 | apply QCw_2036 | apply QCw_2038 | apply QCw_2039 | apply QCw_2040 | apply QCw_2041 | apply QCw_2042 | apply QCw_2043 | apply QCw_609 | apply QCw_610 | apply QCw_611 | apply QCw_612 | apply QCw_2016 | apply QCw_2017 | apply QCw_2014 | apply QCw_2015 | apply QCw_206 | apply QCw_207 | apply QCw_410 | apply QCw_411 | apply QCw_412 | apply QCw_413 | apply QCw_2025 | refine QC_g (by decide) ?_ | refine QC_sm (by assumption) (by decide) (by decide) ?_))) (by decide) (by decide) ⟨Nat.zero_le _, Nat.zero_le _⟩ (Nat.le_of_ble_eq_true rfl) (fun G67 hp67 => ?_)
            obtain ⟨hz67, hq67⟩ := hp67
            have hZ67 := hq67
            refine zs_aload_n (pc := 70) C dX3_readSide_70 rfl ?_
            refine zs_iconst (pc := 71) C dX3_readSide_71 (by decide) ?_
            refine zs_aload_n (pc := 72) C dX3_readSide_72 rfl ?_
            refine zs_geti (r := 404) (pc := 73) C dX3_readSide_73 w_X3_68 f_4_4 rfl (r_404 0) (fun v73 e73 l73 u73 => ?_)
            first | (have h73 : v73 = tV b n A := (by omega); subst h73) | skip
            refine zVv2 (pc := 76) C dX3_readSide_76 v_X3_203 (c_X3_writeSideF hX (by repeat (first | assumption | apply QCw_407 | apply QCw_408 | apply QCw_406 | apply QCw_2037 | apply QCw_2036 | apply QCw_2038 | apply QCw_2039 | apply QCw_2040 | apply QCw_2041 | apply QCw_2042 | apply QCw_2043 | apply QCw_609 | apply QCw_610 | apply QCw_611 | apply QCw_612 | apply QCw_2016 | apply QCw_2017 | apply QCw_2014 | apply QCw_2015 | apply QCw_206 | apply QCw_207 | apply QCw_410 | apply QCw_411 | apply QCw_412 | apply QCw_413 | apply QCw_2025 | refine QC_g (by decide) ?_ | refine QC_sm (by assumption) (by decide) (by decide) ?_))) (by decide) (by decide) ⟨Nat.zero_le _, Nat.zero_le _⟩ (Nat.le_of_ble_eq_true rfl) (fun G76 hp76 => ?_)
            obtain ⟨hz76, hq76⟩ := hp76
            have hZ76 := hq76
            try (have hL := sLeaf_ne (b := b) (n := n) (k := 0) (q := v73) (q' := tV b n A) f2; rw [hL] at hZ76)
            refine zs_goto (tgt := 111) (pc := 79) C dX3_readSide_79 (by decide) ?_
            exact zs_vret (pc := 111) C hr hlk dX3_readSide_111 ⟨by repeat (first | exact zsm_rf | assumption | refine zsm_C (by decide) ?_ | refine zsm_I (by decide) ?_ | refine zsm_J ?_ | refine zsm_c (by assumption) (by decide) ?_), by unfold sSide sNot; (repeat' split) <;> first | assumption | (exfalso; omega) | exact (by repeat (first | assumption | apply QCw_407 | apply QCw_408 | apply QCw_406 | apply QCw_2037 | apply QCw_2036 | apply QCw_2038 | apply QCw_2039 | apply QCw_2040 | apply QCw_2041 | apply QCw_2042 | apply QCw_2043 | apply QCw_609 | apply QCw_610 | apply QCw_611 | apply QCw_612 | apply QCw_2016 | apply QCw_2017 | apply QCw_2014 | apply QCw_2015 | apply QCw_206 | apply QCw_207 | apply QCw_410 | apply QCw_411 | apply QCw_412 | apply QCw_413 | apply QCw_2025 | refine QC_g (by decide) ?_ | refine QC_sm (by assumption) (by decide) (by decide) ?_))⟩
      · skip
        refine zs_aload_n (pc := 32) C dX3_readSide_32 rfl ?_
        refine zVi0 (pc := 33) C dX3_readSide_33 v_X3_197 (c_X3_countKnotF hX (by repeat (first | assumption | apply QCw_407 | apply QCw_408 | apply QCw_406 | apply QCw_2037 | apply QCw_2036 | apply QCw_2038 | apply QCw_2039 | apply QCw_2040 | apply QCw_2041 | apply QCw_2042 | apply QCw_2043 | apply QCw_609 | apply QCw_610 | apply QCw_611 | apply QCw_612 | apply QCw_2016 | apply QCw_2017 | apply QCw_2014 | apply QCw_2015 | apply QCw_206 | apply QCw_207 | apply QCw_410 | apply QCw_411 | apply QCw_412 | apply QCw_413 | apply QCw_2025 | refine QC_g (by decide) ?_ | refine QC_sm (by assumption) (by decide) (by decide) ?_))) (by decide) (by decide) ⟨Nat.zero_le _, Nat.zero_le _⟩ (Nat.le_of_ble_eq_true rfl) (fun x33 G33 l33 u33 hp33 => ?_)
        obtain ⟨hz33, hq33⟩ := hp33
        have hZ33 := hq33.1
        have hX33 := hq33.2
        refine zs_if_eq (tgt := 111) (pc := 36) C dX3_readSide_36 (by decide) (fun h36 => ?_) (fun h36 => ?_)
        · skip
          exact zs_vret (pc := 111) C hr hlk dX3_readSide_111 ⟨by repeat (first | exact zsm_rf | assumption | refine zsm_C (by decide) ?_ | refine zsm_I (by decide) ?_ | refine zsm_J ?_ | refine zsm_c (by assumption) (by decide) ?_), by unfold sSide sNot; (repeat' split) <;> first | assumption | (exfalso; omega) | exact (by repeat (first | assumption | apply QCw_407 | apply QCw_408 | apply QCw_406 | apply QCw_2037 | apply QCw_2036 | apply QCw_2038 | apply QCw_2039 | apply QCw_2040 | apply QCw_2041 | apply QCw_2042 | apply QCw_2043 | apply QCw_609 | apply QCw_610 | apply QCw_611 | apply QCw_612 | apply QCw_2016 | apply QCw_2017 | apply QCw_2014 | apply QCw_2015 | apply QCw_206 | apply QCw_207 | apply QCw_410 | apply QCw_411 | apply QCw_412 | apply QCw_413 | apply QCw_2025 | refine QC_g (by decide) ?_ | refine QC_sm (by assumption) (by decide) (by decide) ?_))⟩
        · skip
          refine zs_aload_n (pc := 39) C dX3_readSide_39 rfl ?_
          refine zs_iconst (pc := 40) C dX3_readSide_40 (by decide) ?_
          refine zVv1 (pc := 41) C dX3_readSide_41 v_X3_200 (c_X3_pushF hX (by repeat (first | assumption | apply QCw_407 | apply QCw_408 | apply QCw_406 | apply QCw_2037 | apply QCw_2036 | apply QCw_2038 | apply QCw_2039 | apply QCw_2040 | apply QCw_2041 | apply QCw_2042 | apply QCw_2043 | apply QCw_609 | apply QCw_610 | apply QCw_611 | apply QCw_612 | apply QCw_2016 | apply QCw_2017 | apply QCw_2014 | apply QCw_2015 | apply QCw_206 | apply QCw_207 | apply QCw_410 | apply QCw_411 | apply QCw_412 | apply QCw_413 | apply QCw_2025 | refine QC_g (by decide) ?_ | refine QC_sm (by assumption) (by decide) (by decide) ?_)) (by omega)) (by decide) (by decide) ⟨Nat.zero_le _, Nat.zero_le _⟩ (Nat.le_of_ble_eq_true rfl) (fun G41 hp41 => ?_)
          obtain ⟨hz41, hq41⟩ := hp41
          have hZ41 := hq41
          refine zs_goto (tgt := 111) (pc := 44) C dX3_readSide_44 (by decide) ?_
          exact zs_vret (pc := 111) C hr hlk dX3_readSide_111 ⟨by repeat (first | exact zsm_rf | assumption | refine zsm_C (by decide) ?_ | refine zsm_I (by decide) ?_ | refine zsm_J ?_ | refine zsm_c (by assumption) (by decide) ?_), by unfold sSide sNot; (repeat' split) <;> first | assumption | (exfalso; omega) | exact (by repeat (first | assumption | apply QCw_407 | apply QCw_408 | apply QCw_406 | apply QCw_2037 | apply QCw_2036 | apply QCw_2038 | apply QCw_2039 | apply QCw_2040 | apply QCw_2041 | apply QCw_2042 | apply QCw_2043 | apply QCw_609 | apply QCw_610 | apply QCw_611 | apply QCw_612 | apply QCw_2016 | apply QCw_2017 | apply QCw_2014 | apply QCw_2015 | apply QCw_206 | apply QCw_207 | apply QCw_410 | apply QCw_411 | apply QCw_412 | apply QCw_413 | apply QCw_2025 | refine QC_g (by decide) ?_ | refine QC_sm (by assumption) (by decide) (by decide) ?_))⟩
  · skip
    refine zs_aload_n (pc := 9) C dX3_readSide_9 rfl ?_
    refine zVv0 (pc := 10) C dX3_readSide_10 v_X3_194 (c_X3_readOpenF hX (by repeat (first | assumption | apply QCw_407 | apply QCw_408 | apply QCw_406 | apply QCw_2037 | apply QCw_2036 | apply QCw_2038 | apply QCw_2039 | apply QCw_2040 | apply QCw_2041 | apply QCw_2042 | apply QCw_2043 | apply QCw_609 | apply QCw_610 | apply QCw_611 | apply QCw_612 | apply QCw_2016 | apply QCw_2017 | apply QCw_2014 | apply QCw_2015 | apply QCw_206 | apply QCw_207 | apply QCw_410 | apply QCw_411 | apply QCw_412 | apply QCw_413 | apply QCw_2025 | refine QC_g (by decide) ?_ | refine QC_sm (by assumption) (by decide) (by decide) ?_))) (by decide) (by decide) ⟨Nat.zero_le _, Nat.zero_le _⟩ (Nat.le_of_ble_eq_true rfl) (fun G10 hp10 => ?_)
    obtain ⟨hz10, hq10⟩ := hp10
    have hZ10 := hq10
    refine zs_goto (tgt := 111) (pc := 13) C dX3_readSide_13 (by decide) ?_
    exact zs_vret (pc := 111) C hr hlk dX3_readSide_111 ⟨by repeat (first | exact zsm_rf | assumption | refine zsm_C (by decide) ?_ | refine zsm_I (by decide) ?_ | refine zsm_J ?_ | refine zsm_c (by assumption) (by decide) ?_), by unfold sSide sNot; (repeat' split) <;> first | assumption | (exfalso; omega) | exact (by repeat (first | assumption | apply QCw_407 | apply QCw_408 | apply QCw_406 | apply QCw_2037 | apply QCw_2036 | apply QCw_2038 | apply QCw_2039 | apply QCw_2040 | apply QCw_2041 | apply QCw_2042 | apply QCw_2043 | apply QCw_609 | apply QCw_610 | apply QCw_611 | apply QCw_612 | apply QCw_2016 | apply QCw_2017 | apply QCw_2014 | apply QCw_2015 | apply QCw_206 | apply QCw_207 | apply QCw_410 | apply QCw_411 | apply QCw_412 | apply QCw_413 | apply QCw_2025 | refine QC_g (by decide) ?_ | refine QC_sm (by assumption) (by decide) (by decide) ?_))⟩

set_option maxHeartbeats 4000000 in
set_option maxRecDepth 100000 in
theorem c_X3_readEF {l : Launch} {Γ : zΓ} {G : zH} {w t : Nat} {b : Nat → Int} {n : Int} {N : Nat} {A : aS} {k : Int} (hX : zXs Γ) (hZ : QC b n N Γ w t A G)  : zMet l Γ yX3_readE cX3_readE 4 none 4 [zr 4 w, zi k] G (zpv (fun G' => zsm [402, 403, 404, 405, 406, 407, 408, 409, 410, 411, 412, 413, 2025, 206, 207, 2014, 2015, 2016, 2017, 2036, 2037, 2038, 2039, 2040, 2041, 2042, 2043, 609, 610, 611, 612] G G' ∧ QC b n N Γ w t (sE b n k A) G')) := by
  have hI := QC_t hZ
  refine zMet_of RX3 hX (by decide) rfl (Nat.le_of_ble_eq_true rfl) ?_
  intro p e s m args below meth c C hr hlk
  show Z p l e (zrm 4) s m args below meth c Γ 4 0 0 (MQ below (zQc Γ (zpv (fun G' => zsm [402, 403, 404, 405, 406, 407, 408, 409, 410, 411, 412, 413, 2025, 206, 207, 2014, 2015, 2016, 2017, 2036, 2037, 2038, 2039, 2040, 2041, 2042, 2043, 609, 610, 611, 612] G G' ∧ QC b n N Γ w t (sE b n k A) G'))) args s 0 0 (zA Γ)) 0 [some (zr 4 w), some (zi k), none, none] [] G
  refine zs_loc 1 rfl (fun ha1 hb1 => ?_)
  refine zs_aload_n (pc := 0) C dX3_readE_0 rfl ?_
  refine zs_iconst (pc := 1) C dX3_readE_1 (by decide) ?_
  refine zs_puti (r := 410) (pc := 2) C dX3_readE_2 w_X3_165 f_4_10 rfl (r_410 0) (by omega) ?_
  refine zs_aload_n (pc := 5) C dX3_readE_5 rfl ?_
  refine zs_iconst (pc := 6) C dX3_readE_6 (by decide) ?_
  refine zs_puti (r := 411) (pc := 7) C dX3_readE_7 w_X3_168 f_4_11 rfl (r_411 0) (by omega) ?_
  refine zs_aload_n (pc := 10) C dX3_readE_10 rfl ?_
  refine zs_iconst (pc := 11) C dX3_readE_11 (by decide) ?_
  refine zs_putz (r := 412) (pc := 12) C dX3_readE_12 w_X3_171 f_4_12 rfl (r_412 0) (by omega) (by omega) ?_
  refine zs_aload_n (pc := 15) C dX3_readE_15 rfl ?_
  refine zs_iconst (pc := 16) C dX3_readE_16 (by decide) ?_
  refine zs_putz (r := 413) (pc := 17) C dX3_readE_17 w_X3_175 f_4_13 rfl (r_413 0) (by omega) (by omega) ?_
  refine zs_aload_n (pc := 20) C dX3_readE_20 rfl ?_
  refine zs_getd (r := 401) (pc := 21) C dX3_readE_21 w_X3_21 f_4_1 (by decide) rfl (fun v21 e21 t21 => ?_)
  try simp only [zuI_1, zuI_2, zuJ_1, zuJ_2, zuJ_3, zuP_1, zuP_2, zuP_3, zuC_1, zuC_2, reduceIte, Nat.reduceEqDiff, false_and, and_false, true_and, and_true, and_self, or_true, true_or, or_false, false_or] at e21
  rw [hI] at e21
  subst v21
  refine zs_getf (pc := 24) C dX3_readE_24 w_X3_148 f_6_0 (by decide) ?_
  refine zs_iload_n (pc := 27) C dX3_readE_27 rfl ?_
  refine zVv1 (pc := 28) C dX3_readE_28 v_X3_178 (c_X1_beginF hX (by repeat (first | assumption | apply QCw_407 | apply QCw_408 | apply QCw_406 | apply QCw_2037 | apply QCw_2036 | apply QCw_2038 | apply QCw_2039 | apply QCw_2040 | apply QCw_2041 | apply QCw_2042 | apply QCw_2043 | apply QCw_609 | apply QCw_610 | apply QCw_611 | apply QCw_612 | apply QCw_2016 | apply QCw_2017 | apply QCw_2014 | apply QCw_2015 | apply QCw_206 | apply QCw_207 | apply QCw_410 | apply QCw_411 | apply QCw_412 | apply QCw_413 | apply QCw_2025 | refine QC_g (by decide) ?_ | refine QC_sm (by assumption) (by decide) (by decide) ?_))) (by decide) (by decide) ⟨Nat.zero_le _, Nat.zero_le _⟩ (Nat.le_of_ble_eq_true rfl) (fun G28 hp28 => ?_)
  obtain ⟨hz28, hq28⟩ := hp28
  try simp only [zuI_1, zuI_2, zuJ_1, zuJ_2, zuJ_3, zuP_1, zuP_2, zuP_3, zuC_1, zuC_2, reduceIte, Nat.reduceEqDiff, false_and, and_false, true_and, and_true, and_self, or_true, true_or, or_false, false_or] at hq28
  have hZ28 := hq28
  refine zs_iconst (pc := 31) C dX3_readE_31 (by decide) ?_
  refine zs_istore_n (pc := 32) C dX3_readE_32 (by decide) ?_
  dsimp only [zset, zclr, znone]
  refine zs_iconst (pc := 33) C dX3_readE_33 (by decide) ?_
  refine zs_istore_n (pc := 34) C dX3_readE_34 (by decide) ?_
  dsimp only [zset, zclr, znone]
  have L35 : ∀ (nn : Nat) (x2 x3 : Int) (G1 : zH) (A1 : aS), (0 ≤ x3 ∧ x3 ≤ 700) → (zsm [402, 403, 404, 405, 406, 407, 408, 409, 410, 411, 412, 413, 2025, 206, 207, 2014, 2015, 2016, 2017, 2036, 2037, 2038, 2039, 2040, 2041, 2042, 2043, 609, 610, 611, 612] G G1) → (QC b n N Γ w t (A1) G1) → (sEL b n (700 - x3).toNat x2 A1 = sEL b n 700 1 (sBeg k A)) → (700 - x3).toNat < nn → Z p l e (zrm 4) s m args below meth c Γ 4 0 0 (MQ below (zQc Γ (zpv (fun G' => zsm [402, 403, 404, 405, 406, 407, 408, 409, 410, 411, 412, 413, 2025, 206, 207, 2014, 2015, 2016, 2017, 2036, 2037, 2038, 2039, 2040, 2041, 2042, 2043, 609, 610, 611, 612] G G' ∧ QC b n N Γ w t (sE b n k A) G'))) args s 0 0 (zA Γ)) 35 [some (zr 4 w), some (zi k), some (zi x2), some (zi x3)] [] G1 := by
    intro nn
    induction nn with
    | zero => intro x2 x3 G1 A1 h35_0 h35_1 h35_2 h35_3 hm; exact absurd hm (Nat.not_lt_zero _)
    | succ nn ih35 =>
      intro x2 x3 G1 A1 h35_0 h35_1 h35_2 h35_3 hm35
      refine zs_iload_n (pc := 35) C dX3_readE_35 rfl ?_
      refine zs_sipush (pc := 36) C dX3_readE_36 (by decide) (by decide) ?_
      refine zs_icmp_ge (tgt := 78) (pc := 39) C dX3_readE_39 (by decide) (fun h39 => ?_) (fun h39 => ?_)
      · skip
        have e9 : sEL b n 700 1 (sBeg k A) = A1 := by rw [← h35_3]; first | exact sEL_e (by omega) _ | (rw [show (700 - x3).toNat = 0 by omega]; rfl)
        refine zs_aload_n (pc := 78) C dX3_readE_78 rfl ?_
        refine zs_iconst (pc := 79) C dX3_readE_79 (by decide) ?_
        refine zVv1 (pc := 80) C dX3_readE_80 v_X3_188 (c_X3_releaseF hX (by repeat (first | assumption | apply QCw_407 | apply QCw_408 | apply QCw_406 | apply QCw_2037 | apply QCw_2036 | apply QCw_2038 | apply QCw_2039 | apply QCw_2040 | apply QCw_2041 | apply QCw_2042 | apply QCw_2043 | apply QCw_609 | apply QCw_610 | apply QCw_611 | apply QCw_612 | apply QCw_2016 | apply QCw_2017 | apply QCw_2014 | apply QCw_2015 | apply QCw_206 | apply QCw_207 | apply QCw_410 | apply QCw_411 | apply QCw_412 | apply QCw_413 | apply QCw_2025 | refine QC_g (by decide) ?_ | refine QC_sm (by assumption) (by decide) (by decide) ?_))) (by decide) (by decide) ⟨Nat.zero_le _, Nat.zero_le _⟩ (Nat.le_of_ble_eq_true rfl) (fun G80 hp80 => ?_)
        obtain ⟨hz80, hq80⟩ := hp80
        have hZ80 := hq80
        refine zs_aload_n (pc := 83) C dX3_readE_83 rfl ?_
        refine zs_getd (r := 401) (pc := 84) C dX3_readE_84 w_X3_21 f_4_1 (by decide) rfl (fun v84 e84 t84 => ?_)
        try simp only [h35_1.2, hz80.2, zuI_1, zuI_2, zuJ_1, zuJ_2, zuJ_3, zuP_1, zuP_2, zuP_3, zuC_1, zuC_2, reduceIte, Nat.reduceEqDiff, false_and, and_false, true_and, and_true, and_self, or_true, true_or, or_false, false_or] at e84
        rw [hI] at e84
        subst v84
        refine zs_getf (pc := 87) C dX3_readE_87 w_X3_148 f_6_0 (by decide) ?_
        refine zs_iload_n (pc := 90) C dX3_readE_90 rfl ?_
        refine zVv1 (pc := 91) C dX3_readE_91 v_X3_191 (c_X1_finishF hX (by repeat (first | assumption | apply QCw_407 | apply QCw_408 | apply QCw_406 | apply QCw_2037 | apply QCw_2036 | apply QCw_2038 | apply QCw_2039 | apply QCw_2040 | apply QCw_2041 | apply QCw_2042 | apply QCw_2043 | apply QCw_609 | apply QCw_610 | apply QCw_611 | apply QCw_612 | apply QCw_2016 | apply QCw_2017 | apply QCw_2014 | apply QCw_2015 | apply QCw_206 | apply QCw_207 | apply QCw_410 | apply QCw_411 | apply QCw_412 | apply QCw_413 | apply QCw_2025 | refine QC_g (by decide) ?_ | refine QC_sm (by assumption) (by decide) (by decide) ?_))) (by decide) (by decide) ⟨Nat.zero_le _, Nat.zero_le _⟩ (Nat.le_of_ble_eq_true rfl) (fun G91 hp91 => ?_)
        obtain ⟨hz91, hq91⟩ := hp91
        have hZ91 := hq91
        exact zs_vret (pc := 94) C hr hlk dX3_readE_94 ⟨by repeat (first | exact zsm_rf | assumption | refine zsm_C (by decide) ?_ | refine zsm_I (by decide) ?_ | refine zsm_J ?_ | refine zsm_c (by assumption) (by decide) ?_), by unfold sE; rw [e9]; assumption⟩
      · skip
        refine zs_aload_n (pc := 42) C dX3_readE_42 rfl ?_
        refine zs_geti (r := 407) (pc := 43) C dX3_readE_43 w_X3_38 f_4_7 rfl (r_407 0) (fun v43 e43 l43 u43 => ?_)
        try simp only [QC_407 h35_2] at e43
        try subst v43
        refine zs_if_ne (tgt := 78) (pc := 46) C dX3_readE_46 (by decide) (fun h46 => ?_) (fun h46 => ?_)
        · skip
          have e9 : sEL b n 700 1 (sBeg k A) = A1 := by rw [← h35_3]; first | exact sEL_e (by omega) _ | (rw [show (700 - x3).toNat = 0 by omega]; rfl)
          refine zs_aload_n (pc := 78) C dX3_readE_78 rfl ?_
          refine zs_iconst (pc := 79) C dX3_readE_79 (by decide) ?_
          refine zVv1 (pc := 80) C dX3_readE_80 v_X3_188 (c_X3_releaseF hX (by repeat (first | assumption | apply QCw_407 | apply QCw_408 | apply QCw_406 | apply QCw_2037 | apply QCw_2036 | apply QCw_2038 | apply QCw_2039 | apply QCw_2040 | apply QCw_2041 | apply QCw_2042 | apply QCw_2043 | apply QCw_609 | apply QCw_610 | apply QCw_611 | apply QCw_612 | apply QCw_2016 | apply QCw_2017 | apply QCw_2014 | apply QCw_2015 | apply QCw_206 | apply QCw_207 | apply QCw_410 | apply QCw_411 | apply QCw_412 | apply QCw_413 | apply QCw_2025 | refine QC_g (by decide) ?_ | refine QC_sm (by assumption) (by decide) (by decide) ?_))) (by decide) (by decide) ⟨Nat.zero_le _, Nat.zero_le _⟩ (Nat.le_of_ble_eq_true rfl) (fun G80 hp80 => ?_)
          obtain ⟨hz80, hq80⟩ := hp80
          have hZ80 := hq80
          refine zs_aload_n (pc := 83) C dX3_readE_83 rfl ?_
          refine zs_getd (r := 401) (pc := 84) C dX3_readE_84 w_X3_21 f_4_1 (by decide) rfl (fun v84 e84 t84 => ?_)
          try simp only [h35_1.2, hz80.2, zuI_1, zuI_2, zuJ_1, zuJ_2, zuJ_3, zuP_1, zuP_2, zuP_3, zuC_1, zuC_2, reduceIte, Nat.reduceEqDiff, false_and, and_false, true_and, and_true, and_self, or_true, true_or, or_false, false_or] at e84
          rw [hI] at e84
          subst v84
          refine zs_getf (pc := 87) C dX3_readE_87 w_X3_148 f_6_0 (by decide) ?_
          refine zs_iload_n (pc := 90) C dX3_readE_90 rfl ?_
          refine zVv1 (pc := 91) C dX3_readE_91 v_X3_191 (c_X1_finishF hX (by repeat (first | assumption | apply QCw_407 | apply QCw_408 | apply QCw_406 | apply QCw_2037 | apply QCw_2036 | apply QCw_2038 | apply QCw_2039 | apply QCw_2040 | apply QCw_2041 | apply QCw_2042 | apply QCw_2043 | apply QCw_609 | apply QCw_610 | apply QCw_611 | apply QCw_612 | apply QCw_2016 | apply QCw_2017 | apply QCw_2014 | apply QCw_2015 | apply QCw_206 | apply QCw_207 | apply QCw_410 | apply QCw_411 | apply QCw_412 | apply QCw_413 | apply QCw_2025 | refine QC_g (by decide) ?_ | refine QC_sm (by assumption) (by decide) (by decide) ?_))) (by decide) (by decide) ⟨Nat.zero_le _, Nat.zero_le _⟩ (Nat.le_of_ble_eq_true rfl) (fun G91 hp91 => ?_)
          obtain ⟨hz91, hq91⟩ := hp91
          have hZ91 := hq91
          exact zs_vret (pc := 94) C hr hlk dX3_readE_94 ⟨by repeat (first | exact zsm_rf | assumption | refine zsm_C (by decide) ?_ | refine zsm_I (by decide) ?_ | refine zsm_J ?_ | refine zsm_c (by assumption) (by decide) ?_), by unfold sE; rw [e9]; assumption⟩
        · skip
          refine zs_iload_n (pc := 49) C dX3_readE_49 rfl ?_
          refine zs_if_eq (tgt := 78) (pc := 50) C dX3_readE_50 (by decide) (fun h50 => ?_) (fun h50 => ?_)
          · skip
            have e9 : sEL b n 700 1 (sBeg k A) = A1 := by rw [← h35_3]; first | exact sEL_e (by omega) _ | (rw [show (700 - x3).toNat = 0 by omega]; rfl)
            refine zs_aload_n (pc := 78) C dX3_readE_78 rfl ?_
            refine zs_iconst (pc := 79) C dX3_readE_79 (by decide) ?_
            refine zVv1 (pc := 80) C dX3_readE_80 v_X3_188 (c_X3_releaseF hX (by repeat (first | assumption | apply QCw_407 | apply QCw_408 | apply QCw_406 | apply QCw_2037 | apply QCw_2036 | apply QCw_2038 | apply QCw_2039 | apply QCw_2040 | apply QCw_2041 | apply QCw_2042 | apply QCw_2043 | apply QCw_609 | apply QCw_610 | apply QCw_611 | apply QCw_612 | apply QCw_2016 | apply QCw_2017 | apply QCw_2014 | apply QCw_2015 | apply QCw_206 | apply QCw_207 | apply QCw_410 | apply QCw_411 | apply QCw_412 | apply QCw_413 | apply QCw_2025 | refine QC_g (by decide) ?_ | refine QC_sm (by assumption) (by decide) (by decide) ?_))) (by decide) (by decide) ⟨Nat.zero_le _, Nat.zero_le _⟩ (Nat.le_of_ble_eq_true rfl) (fun G80 hp80 => ?_)
            obtain ⟨hz80, hq80⟩ := hp80
            have hZ80 := hq80
            refine zs_aload_n (pc := 83) C dX3_readE_83 rfl ?_
            refine zs_getd (r := 401) (pc := 84) C dX3_readE_84 w_X3_21 f_4_1 (by decide) rfl (fun v84 e84 t84 => ?_)
            try simp only [h35_1.2, hz80.2, zuI_1, zuI_2, zuJ_1, zuJ_2, zuJ_3, zuP_1, zuP_2, zuP_3, zuC_1, zuC_2, reduceIte, Nat.reduceEqDiff, false_and, and_false, true_and, and_true, and_self, or_true, true_or, or_false, false_or] at e84
            rw [hI] at e84
            subst v84
            refine zs_getf (pc := 87) C dX3_readE_87 w_X3_148 f_6_0 (by decide) ?_
            refine zs_iload_n (pc := 90) C dX3_readE_90 rfl ?_
            refine zVv1 (pc := 91) C dX3_readE_91 v_X3_191 (c_X1_finishF hX (by repeat (first | assumption | apply QCw_407 | apply QCw_408 | apply QCw_406 | apply QCw_2037 | apply QCw_2036 | apply QCw_2038 | apply QCw_2039 | apply QCw_2040 | apply QCw_2041 | apply QCw_2042 | apply QCw_2043 | apply QCw_609 | apply QCw_610 | apply QCw_611 | apply QCw_612 | apply QCw_2016 | apply QCw_2017 | apply QCw_2014 | apply QCw_2015 | apply QCw_206 | apply QCw_207 | apply QCw_410 | apply QCw_411 | apply QCw_412 | apply QCw_413 | apply QCw_2025 | refine QC_g (by decide) ?_ | refine QC_sm (by assumption) (by decide) (by decide) ?_))) (by decide) (by decide) ⟨Nat.zero_le _, Nat.zero_le _⟩ (Nat.le_of_ble_eq_true rfl) (fun G91 hp91 => ?_)
            obtain ⟨hz91, hq91⟩ := hp91
            have hZ91 := hq91
            exact zs_vret (pc := 94) C hr hlk dX3_readE_94 ⟨by repeat (first | exact zsm_rf | assumption | refine zsm_C (by decide) ?_ | refine zsm_I (by decide) ?_ | refine zsm_J ?_ | refine zsm_c (by assumption) (by decide) ?_), by unfold sE; rw [e9]; assumption⟩
          · skip
            refine zs_aload_n (pc := 53) C dX3_readE_53 rfl ?_
            refine zs_getz (r := 412) (pc := 54) C dX3_readE_54 w_X3_171 f_4_12 rfl (r_412 0) (fun v54 e54 l54 u54 => ?_)
            try simp only [QC_412 h35_2] at e54
            try subst v54
            refine zs_if_eq (tgt := 67) (pc := 57) C dX3_readE_57 (by decide) (fun h57 => ?_) (fun h57 => ?_)
            · skip
              refine zs_aload_n (pc := 67) C dX3_readE_67 rfl ?_
              refine zVi0 (pc := 68) C dX3_readE_68 v_X3_184 (c_X3_readBehindSideF hX (by repeat (first | assumption | apply QCw_407 | apply QCw_408 | apply QCw_406 | apply QCw_2037 | apply QCw_2036 | apply QCw_2038 | apply QCw_2039 | apply QCw_2040 | apply QCw_2041 | apply QCw_2042 | apply QCw_2043 | apply QCw_609 | apply QCw_610 | apply QCw_611 | apply QCw_612 | apply QCw_2016 | apply QCw_2017 | apply QCw_2014 | apply QCw_2015 | apply QCw_206 | apply QCw_207 | apply QCw_410 | apply QCw_411 | apply QCw_412 | apply QCw_413 | apply QCw_2025 | refine QC_g (by decide) ?_ | refine QC_sm (by assumption) (by decide) (by decide) ?_))) (by decide) (by decide) ⟨Nat.zero_le _, Nat.zero_le _⟩ (Nat.le_of_ble_eq_true rfl) (fun x68 G68 l68 u68 hp68 => ?_)
              obtain ⟨hz68, hq68⟩ := hp68
              have hZ68 := hq68.1
              have hX68 := hq68.2
              refine zs_istore_n (pc := 71) C dX3_readE_71 (by decide) ?_
              dsimp only [zset, zclr, znone]
              first | refine zs_iinc (pc := 72) C dX3_readE_72 rfl (by decide) (by omega) ?_ | refine zs_iincF (pc := 72) C dX3_readE_72 rfl (by decide) (fun z72 hz721 hz722 => ?_)
              dsimp only [zset, zclr, znone]
              refine zs_goto (tgt := 35) (pc := 75) C dX3_readE_75 (by decide) ?_
              exact zs_wk (ih35 _ _ _ _ (by omega) (by repeat (first | exact zsm_rf | assumption | refine zsm_C (by decide) ?_ | refine zsm_I (by decide) ?_ | refine zsm_J ?_ | refine zsm_c (by assumption) (by decide) ?_)) (by first | exact hZ61 | exact hZ68) (by first | (rw [← h35_3, show (700 - x3).toNat = (700 - (x3 + 1)).toNat + 1 by omega, sEL, if_pos ⟨by omega, by omega⟩, if_pos (by omega)]) | (rw [← h35_3, show (700 - x3).toNat = (700 - (x3 + 1)).toNat + 1 by omega, sEL, if_pos ⟨by omega, by omega⟩, if_neg (by omega), ← hX68.2])) (by first | omega | (simp only [zuI_1, zuI_2, zuJ_1, zuJ_2, zuJ_3, zuP_1, zuP_2, zuP_3, zuC_1, zuC_2, reduceIte, Nat.reduceEqDiff, false_and, and_false, true_and, and_true, and_self, or_true, true_or, or_false, false_or]; omega))) (zwk_s rfl (zwk_s rfl (zwk_s rfl (zwk_s rfl zwk_0))))
            · skip
              refine zs_aload_n (pc := 60) C dX3_readE_60 rfl ?_
              refine zVv0 (pc := 61) C dX3_readE_61 v_X3_181 (c_X3_readSideF hX (by repeat (first | assumption | apply QCw_407 | apply QCw_408 | apply QCw_406 | apply QCw_2037 | apply QCw_2036 | apply QCw_2038 | apply QCw_2039 | apply QCw_2040 | apply QCw_2041 | apply QCw_2042 | apply QCw_2043 | apply QCw_609 | apply QCw_610 | apply QCw_611 | apply QCw_612 | apply QCw_2016 | apply QCw_2017 | apply QCw_2014 | apply QCw_2015 | apply QCw_206 | apply QCw_207 | apply QCw_410 | apply QCw_411 | apply QCw_412 | apply QCw_413 | apply QCw_2025 | refine QC_g (by decide) ?_ | refine QC_sm (by assumption) (by decide) (by decide) ?_))) (by decide) (by decide) ⟨Nat.zero_le _, Nat.zero_le _⟩ (Nat.le_of_ble_eq_true rfl) (fun G61 hp61 => ?_)
              obtain ⟨hz61, hq61⟩ := hp61
              have hZ61 := hq61
              refine zs_goto (tgt := 72) (pc := 64) C dX3_readE_64 (by decide) ?_
              first | refine zs_iinc (pc := 72) C dX3_readE_72 rfl (by decide) (by omega) ?_ | refine zs_iincF (pc := 72) C dX3_readE_72 rfl (by decide) (fun z72 hz721 hz722 => ?_)
              dsimp only [zset, zclr, znone]
              refine zs_goto (tgt := 35) (pc := 75) C dX3_readE_75 (by decide) ?_
              exact zs_wk (ih35 _ _ _ _ (by omega) (by repeat (first | exact zsm_rf | assumption | refine zsm_C (by decide) ?_ | refine zsm_I (by decide) ?_ | refine zsm_J ?_ | refine zsm_c (by assumption) (by decide) ?_)) (by first | exact hZ61 | exact hZ68) (by first | (rw [← h35_3, show (700 - x3).toNat = (700 - (x3 + 1)).toNat + 1 by omega, sEL, if_pos ⟨by omega, by omega⟩, if_pos (by omega)]) | (rw [← h35_3, show (700 - x3).toNat = (700 - (x3 + 1)).toNat + 1 by omega, sEL, if_pos ⟨by omega, by omega⟩, if_neg (by omega), ← hX68.2])) (by first | omega | (simp only [zuI_1, zuI_2, zuJ_1, zuJ_2, zuJ_3, zuP_1, zuP_2, zuP_3, zuC_1, zuC_2, reduceIte, Nat.reduceEqDiff, false_and, and_false, true_and, and_true, and_self, or_true, true_or, or_false, false_or]; omega))) (zwk_s rfl (zwk_s rfl (zwk_s rfl (zwk_s rfl zwk_0))))
  exact zs_wk (L35 _ _ _ _ _ (by omega) (by repeat (first | exact zsm_rf | assumption | refine zsm_C (by decide) ?_ | refine zsm_I (by decide) ?_ | refine zsm_J ?_ | refine zsm_c (by assumption) (by decide) ?_)) (show QC b n N Γ w t (sBeg k A) _ from QC_g (by decide) hZ28) rfl (Nat.lt_succ_self _)) (zwk_s rfl (zwk_s rfl (zwk_s rfl (zwk_s rfl zwk_0))))
