/-- works' lower halves and the longs of works stay -/
def RO (G G1 : zH) : Prop := LO G G1 ∧ zsj [2079, 2080, 1082] G G1
theorem RO_rf {G : zH} : RO G G := ⟨LO_rf, zsj_rf⟩
theorem RO_c {G G1 G2 : zH} (h2 : RO G1 G2) (h : RO G G1) : RO G G2 := ⟨LO_t h2.1 h.1, zsj_c h2.2 (fun _ q => q) h.2⟩
theorem RO_n (n : Nat) {G G1 : zH} {r a i : Nat} {x : Int} (hr : hwL r = n) (hi : n ≤ i) (h : RO G G1) : RO G (zuI G1 r a i x) := ⟨LO_I (by rw [hr]; exact hi) h.1, zsj_I h.2⟩
theorem RO_0 {G G1 : zH} {r a i : Nat} {x : Int} (hr : hwL r = 0) (h : RO G G1) : RO G (zuI G1 r a i x) := RO_n 0 hr (Nat.zero_le _) h
theorem RO_J {G G1 : zH} {r a i : Nat} {x : Int} (hr : r ∈ [2079, 2080, 1082]) (h : RO G G1) : RO G (zuJ G1 r a i x) := ⟨LO_J h.1, zsj_J hr h.2⟩

set_option maxHeartbeats 4000000 in
set_option maxRecDepth 100000 in
theorem c_X9_layNamesO {l : Launch} {Γ : zΓ} {G : zH} {w : Nat} {q1 q2 q3 q4 q5 q6 q7 : Int} (hX : zXs Γ)  : zMet l Γ yX9_layNames cX9_layNames 8 none 0 [zr 10 w, zi q1, zi q2, zi q3, zi q4, zi q5, zi q6, zi q7] G (zpv (fun G' => zsm [] G G' ∧ RO G G' ∧ True)) := by
  refine zMet_of RX9 hX (by decide) rfl (Nat.le_of_ble_eq_true rfl) ?_
  intro p e s m args below meth c C hr hlk
  show Z p l e (zrm 0) s m args below meth c Γ 8 0 0 (MQ below (zQc Γ (zpv (fun G' => zsm [] G G' ∧ RO G G' ∧ True))) args s 0 0 (zA Γ)) 0 [some (zr 10 w), some (zi q1), some (zi q2), some (zi q3), some (zi q4), some (zi q5), some (zi q6), some (zi q7)] [] G
  refine zs_loc 1 rfl (fun ha1 hb1 => ?_)
  refine zs_loc 2 rfl (fun ha2 hb2 => ?_)
  refine zs_loc 3 rfl (fun ha3 hb3 => ?_)
  refine zs_loc 4 rfl (fun ha4 hb4 => ?_)
  refine zs_loc 5 rfl (fun ha5 hb5 => ?_)
  refine zs_loc 6 rfl (fun ha6 hb6 => ?_)
  refine zs_loc 7 rfl (fun ha7 hb7 => ?_)
  refine zs_aload_n (pc := 0) C dX9_layNames_0 rfl ?_
  refine zs_getf (pc := 1) C dX9_layNames_1 w_X9_81 f_10_48 (by decide) ?_
  refine zs_iconst (pc := 4) C dX9_layNames_4 (by decide) ?_
  refine zs_iload_n (pc := 5) C dX9_layNames_5 rfl ?_
  refine zs_i2l (pc := 6) C dX9_layNames_6 ?_
  refine zs_last (r := 2079) (pc := 7) C dX9_layNames_7 a_79 (by decide) (by omega) rfl ?_
  refine zs_aload_n (pc := 8) C dX9_layNames_8 rfl ?_
  refine zs_getf (pc := 9) C dX9_layNames_9 w_X9_81 f_10_48 (by decide) ?_
  refine zs_iconst (pc := 12) C dX9_layNames_12 (by decide) ?_
  refine zs_iload_n (pc := 13) C dX9_layNames_13 rfl ?_
  refine zs_i2l (pc := 14) C dX9_layNames_14 ?_
  refine zs_last (r := 2079) (pc := 15) C dX9_layNames_15 a_79 (by decide) (by omega) rfl ?_
  refine zs_aload_n (pc := 16) C dX9_layNames_16 rfl ?_
  refine zs_getf (pc := 17) C dX9_layNames_17 w_X9_81 f_10_48 (by decide) ?_
  refine zs_iconst (pc := 20) C dX9_layNames_20 (by decide) ?_
  refine zs_iload_n (pc := 21) C dX9_layNames_21 rfl ?_
  refine zs_i2l (pc := 22) C dX9_layNames_22 ?_
  refine zs_last (r := 2079) (pc := 23) C dX9_layNames_23 a_79 (by decide) (by omega) rfl ?_
  refine zs_aload_n (pc := 24) C dX9_layNames_24 rfl ?_
  refine zs_getf (pc := 25) C dX9_layNames_25 w_X9_81 f_10_48 (by decide) ?_
  refine zs_iconst (pc := 28) C dX9_layNames_28 (by decide) ?_
  refine zs_iload (pc := 29) C dX9_layNames_29 rfl ?_
  refine zs_i2l (pc := 31) C dX9_layNames_31 ?_
  refine zs_last (r := 2079) (pc := 32) C dX9_layNames_32 a_79 (by decide) (by omega) rfl ?_
  refine zs_aload_n (pc := 33) C dX9_layNames_33 rfl ?_
  refine zs_getf (pc := 34) C dX9_layNames_34 w_X9_81 f_10_48 (by decide) ?_
  refine zs_iconst (pc := 37) C dX9_layNames_37 (by decide) ?_
  refine zs_iload (pc := 38) C dX9_layNames_38 rfl ?_
  refine zs_i2l (pc := 40) C dX9_layNames_40 ?_
  refine zs_last (r := 2079) (pc := 41) C dX9_layNames_41 a_79 (by decide) (by omega) rfl ?_
  refine zs_aload_n (pc := 42) C dX9_layNames_42 rfl ?_
  refine zs_getf (pc := 43) C dX9_layNames_43 w_X9_81 f_10_48 (by decide) ?_
  refine zs_iconst (pc := 46) C dX9_layNames_46 (by decide) ?_
  refine zs_iload (pc := 47) C dX9_layNames_47 rfl ?_
  refine zs_i2l (pc := 49) C dX9_layNames_49 ?_
  refine zs_last (r := 2079) (pc := 50) C dX9_layNames_50 a_79 (by decide) (by omega) rfl ?_
  refine zs_aload_n (pc := 51) C dX9_layNames_51 rfl ?_
  refine zs_getf (pc := 52) C dX9_layNames_52 w_X9_81 f_10_48 (by decide) ?_
  refine zs_bipush (pc := 55) C dX9_layNames_55 (by decide) (by decide) ?_
  refine zs_iload (pc := 57) C dX9_layNames_57 rfl ?_
  refine zs_i2l (pc := 59) C dX9_layNames_59 ?_
  refine zs_last (r := 2079) (pc := 60) C dX9_layNames_60 a_79 (by decide) (by omega) rfl ?_
  exact zs_vret (pc := 61) C hr hlk dX9_layNames_61 ⟨by repeat (first | exact zsm_rf | assumption | refine zsm_C (by decide) ?_ | refine zsm_I (by decide) ?_ | refine zsm_J ?_ | refine zsm_c (by assumption) (by decide) ?_), (by with_reducible repeat (first | exact RO_rf | assumption | refine RO_0 (by decide) ?_ | refine RO_n 20 (by decide) (by omega) ?_ | refine RO_n 5 (by decide) (by omega) ?_ | refine RO_n 60 (by decide) (by omega) ?_ | refine RO_n 1 (by decide) (by omega) ?_ | refine RO_J (by decide) ?_ | refine RO_c (by assumption) ?_)), trivial⟩

set_option maxHeartbeats 4000000 in
set_option maxRecDepth 100000 in
theorem c_X9_layOfO {l : Launch} {Γ : zΓ} {G : zH} {w : Nat} {b0 p0 s0 : Int} (hX : zXs Γ) (hb : b0 = 0 ∨ b0 = 1)(hp : 0 ≤ p0 ∧ p0 ≤ 4)(hs : 0 ≤ s0 ∧ s0 ≤ 3) : zMet l Γ yX9_layOf cX9_layOf 4 none 2 [zr 10 w, zi b0, zi p0, zi s0] G (zpv (fun G' => zsm [] G G' ∧ RO G G' ∧ True)) := by
  refine zMet_of RX9 hX (by decide) rfl (Nat.le_of_ble_eq_true rfl) ?_
  intro p e s m args below meth c C hr hlk
  show Z p l e (zrm 2) s m args below meth c Γ 4 0 0 (MQ below (zQc Γ (zpv (fun G' => zsm [] G G' ∧ RO G G' ∧ True))) args s 0 0 (zA Γ)) 0 [some (zr 10 w), some (zi b0), some (zi p0), some (zi s0)] [] G
  refine zs_loc 1 rfl (fun ha1 hb1 => ?_)
  refine zs_loc 2 rfl (fun ha2 hb2 => ?_)
  refine zs_loc 3 rfl (fun ha3 hb3 => ?_)
  refine zs_aload_n (pc := 0) C dX9_layOf_0 rfl ?_
  refine zs_aload_n (pc := 1) C dX9_layOf_1 rfl ?_
  refine zs_getf (pc := 2) C dX9_layOf_2 w_X9_30 f_10_25 (by decide) ?_
  refine zs_iload_n (pc := 5) C dX9_layOf_5 rfl ?_
  refine zs_iald (r := 2062) (pc := 6) C dX9_layOf_6 a_62 (by decide) (by omega) rfl (r_2062 _) (fun v6 e6 l6 u6 => ?_)
  refine zs_aload_n (pc := 7) C dX9_layOf_7 rfl ?_
  refine zs_getf (pc := 8) C dX9_layOf_8 w_X9_94 f_10_53 (by decide) ?_
  refine zs_iconst (pc := 11) C dX9_layOf_11 (by decide) ?_
  refine zs_iload_n (pc := 12) C dX9_layOf_12 rfl ?_
  first | refine zs_imul (pc := 13) C dX9_layOf_13 (by omega) ?_ | refine zs_imulF (pc := 13) C dX9_layOf_13 (fun z13 hz131 hz132 => ?_)
  refine zs_iload_n (pc := 14) C dX9_layOf_14 rfl ?_
  first | refine zs_iadd (pc := 15) C dX9_layOf_15 (by omega) ?_ | refine zs_iaddF (pc := 15) C dX9_layOf_15 (fun z15 hz151 hz152 => ?_)
  refine zs_iald (r := 2083) (pc := 16) C dX9_layOf_16 a_83 (by decide) (by omega) rfl (r_2083 _) (fun v16 e16 l16 u16 => ?_)
  refine zs_aload_n (pc := 17) C dX9_layOf_17 rfl ?_
  refine zs_getf (pc := 18) C dX9_layOf_18 w_X9_112 f_10_59 (by decide) ?_
  refine zs_iload_n (pc := 21) C dX9_layOf_21 rfl ?_
  refine zs_iald (r := 2089) (pc := 22) C dX9_layOf_22 a_89 (by decide) (by omega) rfl (r_2089 _) (fun v22 e22 l22 u22 => ?_)
  refine zs_aload_n (pc := 23) C dX9_layOf_23 rfl ?_
  refine zs_iload_n (pc := 24) C dX9_layOf_24 rfl ?_
  refine zs_iload_n (pc := 25) C dX9_layOf_25 rfl ?_
  refine zVip2 (pc := 26) C dX9_layOf_26 v_X9_404 (c_X9_prideOf hX (by omega) (by omega)) (by decide) (by decide) ⟨Nat.zero_le _, Nat.zero_le _⟩ (Nat.le_of_ble_eq_true rfl) (fun x26 l26 u26 hp26 => ?_)
  have hq26 := hp26
  refine zs_aload_n (pc := 29) C dX9_layOf_29 rfl ?_
  refine zs_iload_n (pc := 30) C dX9_layOf_30 rfl ?_
  refine zs_iload_n (pc := 31) C dX9_layOf_31 rfl ?_
  refine zs_iload_n (pc := 32) C dX9_layOf_32 rfl ?_
  refine zVip3 (pc := 33) C dX9_layOf_33 v_X9_394 (c_X9_leftOf hX (by omega) (by omega) (by omega)) (by decide) (by decide) ⟨Nat.zero_le _, Nat.zero_le _⟩ (Nat.le_of_ble_eq_true rfl) (fun x33 l33 u33 hp33 => ?_)
  have hq33 := hp33
  refine zs_if_le (tgt := 43) (pc := 36) C dX9_layOf_36 (by decide) (fun h36 => ?_) (fun h36 => ?_)
  · skip
    refine zs_iconst (pc := 43) C dX9_layOf_43 (by decide) ?_
    refine zs_aload_n (pc := 44) C dX9_layOf_44 rfl ?_
    refine zs_getf (pc := 45) C dX9_layOf_45 w_X9_36 f_10_27 (by decide) ?_
    refine zs_iload_n (pc := 48) C dX9_layOf_48 rfl ?_
    refine zs_iald (r := 2064) (pc := 49) C dX9_layOf_49 a_64 (by decide) (by omega) rfl (r_2064 _) (fun v49 e49 l49 u49 => ?_)
    refine zs_aload_n (pc := 50) C dX9_layOf_50 rfl ?_
    refine zs_getf (pc := 51) C dX9_layOf_51 w_X9_115 f_10_60 (by decide) ?_
    refine zs_iload_n (pc := 54) C dX9_layOf_54 rfl ?_
    refine zs_iald (r := 2090) (pc := 55) C dX9_layOf_55 a_90 (by decide) (by omega) rfl (r_2090 _) (fun v55 e55 l55 u55 => ?_)
    refine zVv7 (pc := 56) C dX9_layOf_56 v_X9_410 (c_X9_layNamesO hX ) (by decide) (by decide) ⟨Nat.zero_le _, Nat.zero_le _⟩ (Nat.le_of_ble_eq_true rfl) (fun G56 hp56 => ?_)
    obtain ⟨hz56, lo56, hq56⟩ := hp56
    exact zs_vret (pc := 59) C hr hlk dX9_layOf_59 ⟨by repeat (first | exact zsm_rf | assumption | refine zsm_C (by decide) ?_ | refine zsm_I (by decide) ?_ | refine zsm_J ?_ | refine zsm_c (by assumption) (by decide) ?_), (by with_reducible repeat (first | exact RO_rf | assumption | refine RO_0 (by decide) ?_ | refine RO_n 20 (by decide) (by omega) ?_ | refine RO_n 5 (by decide) (by omega) ?_ | refine RO_n 60 (by decide) (by omega) ?_ | refine RO_n 1 (by decide) (by omega) ?_ | refine RO_J (by decide) ?_ | refine RO_c (by assumption) ?_)), trivial⟩
  · skip
    refine zs_iconst (pc := 39) C dX9_layOf_39 (by decide) ?_
    refine zs_goto (tgt := 44) (pc := 40) C dX9_layOf_40 (by decide) ?_
    refine zs_aload_n (pc := 44) C dX9_layOf_44 rfl ?_
    refine zs_getf (pc := 45) C dX9_layOf_45 w_X9_36 f_10_27 (by decide) ?_
    refine zs_iload_n (pc := 48) C dX9_layOf_48 rfl ?_
    refine zs_iald (r := 2064) (pc := 49) C dX9_layOf_49 a_64 (by decide) (by omega) rfl (r_2064 _) (fun v49 e49 l49 u49 => ?_)
    refine zs_aload_n (pc := 50) C dX9_layOf_50 rfl ?_
    refine zs_getf (pc := 51) C dX9_layOf_51 w_X9_115 f_10_60 (by decide) ?_
    refine zs_iload_n (pc := 54) C dX9_layOf_54 rfl ?_
    refine zs_iald (r := 2090) (pc := 55) C dX9_layOf_55 a_90 (by decide) (by omega) rfl (r_2090 _) (fun v55 e55 l55 u55 => ?_)
    refine zVv7 (pc := 56) C dX9_layOf_56 v_X9_410 (c_X9_layNamesO hX ) (by decide) (by decide) ⟨Nat.zero_le _, Nat.zero_le _⟩ (Nat.le_of_ble_eq_true rfl) (fun G56 hp56 => ?_)
    obtain ⟨hz56, lo56, hq56⟩ := hp56
    exact zs_vret (pc := 59) C hr hlk dX9_layOf_59 ⟨by repeat (first | exact zsm_rf | assumption | refine zsm_C (by decide) ?_ | refine zsm_I (by decide) ?_ | refine zsm_J ?_ | refine zsm_c (by assumption) (by decide) ?_), (by with_reducible repeat (first | exact RO_rf | assumption | refine RO_0 (by decide) ?_ | refine RO_n 20 (by decide) (by omega) ?_ | refine RO_n 5 (by decide) (by omega) ?_ | refine RO_n 60 (by decide) (by omega) ?_ | refine RO_n 1 (by decide) (by omega) ?_ | refine RO_J (by decide) ?_ | refine RO_c (by assumption) ?_)), trivial⟩

set_option maxHeartbeats 4000000 in
set_option maxRecDepth 100000 in
theorem c_X9_layPairO {l : Launch} {Γ : zΓ} {G : zH} {w : Nat} {p0 s0 : Int} (hX : zXs Γ) (hp : 0 ≤ p0 ∧ p0 ≤ 4)(hs : 0 ≤ s0 ∧ s0 ≤ 4) : zMet l Γ yX9_layPair cX9_layPair 3 none 2 [zr 10 w, zi p0, zi s0] G (zpv (fun G' => zsm [] G G' ∧ RO G G' ∧ True)) := by
  refine zMet_of RX9 hX (by decide) rfl (Nat.le_of_ble_eq_true rfl) ?_
  intro p e s m args below meth c C hr hlk
  show Z p l e (zrm 2) s m args below meth c Γ 3 0 0 (MQ below (zQc Γ (zpv (fun G' => zsm [] G G' ∧ RO G G' ∧ True))) args s 0 0 (zA Γ)) 0 [some (zr 10 w), some (zi p0), some (zi s0)] [] G
  refine zs_loc 1 rfl (fun ha1 hb1 => ?_)
  refine zs_loc 2 rfl (fun ha2 hb2 => ?_)
  refine zs_aload_n (pc := 0) C dX9_layPair_0 rfl ?_
  refine zs_aload_n (pc := 1) C dX9_layPair_1 rfl ?_
  refine zs_iload_n (pc := 2) C dX9_layPair_2 rfl ?_
  refine zVip1 (pc := 3) C dX9_layPair_3 v_X9_430 (c_X9_worthLeft hX (by omega)) (by decide) (by decide) ⟨Nat.zero_le _, Nat.zero_le _⟩ (Nat.le_of_ble_eq_true rfl) (fun x3 l3 u3 hp3 => ?_)
  have hq3 := hp3
  refine zs_aload_n (pc := 6) C dX9_layPair_6 rfl ?_
  refine zs_iload_n (pc := 7) C dX9_layPair_7 rfl ?_
  refine zVip1 (pc := 8) C dX9_layPair_8 v_X9_430 (c_X9_worthLeft hX (by omega)) (by decide) (by decide) ⟨Nat.zero_le _, Nat.zero_le _⟩ (Nat.le_of_ble_eq_true rfl) (fun x8 l8 u8 hp8 => ?_)
  have hq8 := hp8
  refine zs_aload_n (pc := 11) C dX9_layPair_11 rfl ?_
  refine zs_getf (pc := 12) C dX9_layPair_12 w_X9_112 f_10_59 (by decide) ?_
  refine zs_iconst (pc := 15) C dX9_layPair_15 (by decide) ?_
  refine zs_iald (r := 2089) (pc := 16) C dX9_layPair_16 a_89 (by decide) (by omega) rfl (r_2089 _) (fun v16 e16 l16 u16 => ?_)
  refine zs_aload_n (pc := 17) C dX9_layPair_17 rfl ?_
  refine zs_iconst (pc := 18) C dX9_layPair_18 (by decide) ?_
  refine zs_iload_n (pc := 19) C dX9_layPair_19 rfl ?_
  refine zVip2 (pc := 20) C dX9_layPair_20 v_X9_404 (c_X9_prideOf hX (by omega) (by omega)) (by decide) (by decide) ⟨Nat.zero_le _, Nat.zero_le _⟩ (Nat.le_of_ble_eq_true rfl) (fun x20 l20 u20 hp20 => ?_)
  have hq20 := hp20
  refine zs_iconst (pc := 23) C dX9_layPair_23 (by decide) ?_
  refine zs_aload_n (pc := 24) C dX9_layPair_24 rfl ?_
  refine zs_getf (pc := 25) C dX9_layPair_25 w_X9_36 f_10_27 (by decide) ?_
  refine zs_iload_n (pc := 28) C dX9_layPair_28 rfl ?_
  refine zs_iald (r := 2064) (pc := 29) C dX9_layPair_29 a_64 (by decide) (by omega) rfl (r_2064 _) (fun v29 e29 l29 u29 => ?_)
  refine zs_aload_n (pc := 30) C dX9_layPair_30 rfl ?_
  refine zs_getf (pc := 31) C dX9_layPair_31 w_X9_115 f_10_60 (by decide) ?_
  refine zs_iconst (pc := 34) C dX9_layPair_34 (by decide) ?_
  refine zs_iald (r := 2090) (pc := 35) C dX9_layPair_35 a_90 (by decide) (by omega) rfl (r_2090 _) (fun v35 e35 l35 u35 => ?_)
  refine zVv7 (pc := 36) C dX9_layPair_36 v_X9_410 (c_X9_layNamesO hX ) (by decide) (by decide) ⟨Nat.zero_le _, Nat.zero_le _⟩ (Nat.le_of_ble_eq_true rfl) (fun G36 hp36 => ?_)
  obtain ⟨hz36, lo36, hq36⟩ := hp36
  exact zs_vret (pc := 39) C hr hlk dX9_layPair_39 ⟨by repeat (first | exact zsm_rf | assumption | refine zsm_C (by decide) ?_ | refine zsm_I (by decide) ?_ | refine zsm_J ?_ | refine zsm_c (by assumption) (by decide) ?_), (by with_reducible repeat (first | exact RO_rf | assumption | refine RO_0 (by decide) ?_ | refine RO_n 20 (by decide) (by omega) ?_ | refine RO_n 5 (by decide) (by omega) ?_ | refine RO_n 60 (by decide) (by omega) ?_ | refine RO_n 1 (by decide) (by omega) ?_ | refine RO_J (by decide) ?_ | refine RO_c (by assumption) ?_)), trivial⟩

set_option maxHeartbeats 4000000 in
set_option maxRecDepth 100000 in
theorem c_X9_boundedO {l : Launch} {Γ : zΓ} {G : zH} {w : Nat} {a : Int} (hX : zXs Γ)  : zMet l Γ yX9_bounded cX9_bounded 3 (some .long) 0 [zr 10 w, zj a] G (zpj (fun x G' => zsm [1050] G G' ∧ RO G G' ∧ True)) := by
  refine zMet_of RX9 hX (by decide) rfl (Nat.le_of_ble_eq_true rfl) ?_
  intro p e s m args below meth c C hr hlk
  show Z p l e (zrm 0) s m args below meth c Γ 3 0 0 (MQ below (zQc Γ (zpj (fun x G' => zsm [1050] G G' ∧ RO G G' ∧ True))) args s 0 0 (zA Γ)) 0 [some (zr 10 w), some (zj a), none] [] G
  refine zs_aload_n (pc := 0) C dX9_bounded_0 rfl ?_
  refine zs_aload_n (pc := 1) C dX9_bounded_1 rfl ?_
  refine zs_getz (r := 1050) (pc := 2) C dX9_bounded_2 w_X9_357 f_10_50 rfl (r_1050 0) (fun v2 e2 l2 u2 => ?_)
  refine zs_if_ne (tgt := 24) (pc := 5) C dX9_bounded_5 (by decide) (fun h5 => ?_) (fun h5 => ?_)
  · skip
    refine zs_iconst (pc := 24) C dX9_bounded_24 (by decide) ?_
    refine zs_goto (tgt := 29) (pc := 25) C dX9_bounded_25 (by decide) ?_
    refine zs_putz (r := 1050) (pc := 29) C dX9_bounded_29 w_X9_357 f_10_50 rfl (r_1050 0) (by omega) (by omega) ?_
    refine zs_aload_n (pc := 32) C dX9_bounded_32 rfl ?_
    refine zs_getz (r := 1050) (pc := 33) C dX9_bounded_33 w_X9_357 f_10_50 rfl (r_1050 0) (fun v33 e33 l33 u33 => ?_)
    try simp only [zuI_1, zuI_2, zuJ_1, zuJ_2, zuJ_3, zuP_1, zuP_2, zuP_3, zuC_1, zuC_2, reduceIte, Nat.reduceEqDiff, false_and, and_false, true_and, and_true, and_self, or_true, true_or, or_false, false_or] at e33
    refine zs_if_eq (tgt := 43) (pc := 36) C dX9_bounded_36 (by decide) (fun h36 => ?_) (fun h36 => ?_)
    · skip
      refine zs_lload_n (pc := 43) C dX9_bounded_43 rfl ?_
      exact zs_lret (pc := 44) C hr hlk dX9_bounded_44 ⟨by repeat (first | exact zsm_rf | assumption | refine zsm_C (by decide) ?_ | refine zsm_I (by decide) ?_ | refine zsm_J ?_ | refine zsm_c (by assumption) (by decide) ?_), (by with_reducible repeat (first | exact RO_rf | assumption | refine RO_0 (by decide) ?_ | refine RO_n 20 (by decide) (by omega) ?_ | refine RO_n 5 (by decide) (by omega) ?_ | refine RO_n 60 (by decide) (by omega) ?_ | refine RO_n 1 (by decide) (by omega) ?_ | refine RO_J (by decide) ?_ | refine RO_c (by assumption) ?_)), trivial⟩
    · skip
      refine zs_lconst (n := 0) (pc := 39) C dX9_bounded_39 rfl (by decide) ?_
      refine zs_goto (tgt := 44) (pc := 40) C dX9_bounded_40 (by decide) ?_
      exact zs_lret (pc := 44) C hr hlk dX9_bounded_44 ⟨by repeat (first | exact zsm_rf | assumption | refine zsm_C (by decide) ?_ | refine zsm_I (by decide) ?_ | refine zsm_J ?_ | refine zsm_c (by assumption) (by decide) ?_), (by with_reducible repeat (first | exact RO_rf | assumption | refine RO_0 (by decide) ?_ | refine RO_n 20 (by decide) (by omega) ?_ | refine RO_n 5 (by decide) (by omega) ?_ | refine RO_n 60 (by decide) (by omega) ?_ | refine RO_n 1 (by decide) (by omega) ?_ | refine RO_J (by decide) ?_ | refine RO_c (by assumption) ?_)), trivial⟩
  · skip
    refine zs_lload_n (pc := 8) C dX9_bounded_8 rfl ?_
    refine zs_ldc2 (n := 1000000000000) (pc := 9) C dX9_bounded_9 q_X9_360 (by decide) (by decide) ?_
    refine zs_lcmp (pc := 12) C dX9_bounded_12 (fun z12 hz12 => ?_)
    refine zs_if_gt (tgt := 24) (pc := 13) C dX9_bounded_13 (by decide) (fun h13 => ?_) (fun h13 => ?_)
    · skip
      refine zs_iconst (pc := 24) C dX9_bounded_24 (by decide) ?_
      refine zs_goto (tgt := 29) (pc := 25) C dX9_bounded_25 (by decide) ?_
      refine zs_putz (r := 1050) (pc := 29) C dX9_bounded_29 w_X9_357 f_10_50 rfl (r_1050 0) (by omega) (by omega) ?_
      refine zs_aload_n (pc := 32) C dX9_bounded_32 rfl ?_
      refine zs_getz (r := 1050) (pc := 33) C dX9_bounded_33 w_X9_357 f_10_50 rfl (r_1050 0) (fun v33 e33 l33 u33 => ?_)
      try simp only [zuI_1, zuI_2, zuJ_1, zuJ_2, zuJ_3, zuP_1, zuP_2, zuP_3, zuC_1, zuC_2, reduceIte, Nat.reduceEqDiff, false_and, and_false, true_and, and_true, and_self, or_true, true_or, or_false, false_or] at e33
      refine zs_if_eq (tgt := 43) (pc := 36) C dX9_bounded_36 (by decide) (fun h36 => ?_) (fun h36 => ?_)
      · skip
        refine zs_lload_n (pc := 43) C dX9_bounded_43 rfl ?_
        exact zs_lret (pc := 44) C hr hlk dX9_bounded_44 ⟨by repeat (first | exact zsm_rf | assumption | refine zsm_C (by decide) ?_ | refine zsm_I (by decide) ?_ | refine zsm_J ?_ | refine zsm_c (by assumption) (by decide) ?_), (by with_reducible repeat (first | exact RO_rf | assumption | refine RO_0 (by decide) ?_ | refine RO_n 20 (by decide) (by omega) ?_ | refine RO_n 5 (by decide) (by omega) ?_ | refine RO_n 60 (by decide) (by omega) ?_ | refine RO_n 1 (by decide) (by omega) ?_ | refine RO_J (by decide) ?_ | refine RO_c (by assumption) ?_)), trivial⟩
      · skip
        refine zs_lconst (n := 0) (pc := 39) C dX9_bounded_39 rfl (by decide) ?_
        refine zs_goto (tgt := 44) (pc := 40) C dX9_bounded_40 (by decide) ?_
        exact zs_lret (pc := 44) C hr hlk dX9_bounded_44 ⟨by repeat (first | exact zsm_rf | assumption | refine zsm_C (by decide) ?_ | refine zsm_I (by decide) ?_ | refine zsm_J ?_ | refine zsm_c (by assumption) (by decide) ?_), (by with_reducible repeat (first | exact RO_rf | assumption | refine RO_0 (by decide) ?_ | refine RO_n 20 (by decide) (by omega) ?_ | refine RO_n 5 (by decide) (by omega) ?_ | refine RO_n 60 (by decide) (by omega) ?_ | refine RO_n 1 (by decide) (by omega) ?_ | refine RO_J (by decide) ?_ | refine RO_c (by assumption) ?_)), trivial⟩
    · skip
      refine zs_lload_n (pc := 16) C dX9_bounded_16 rfl ?_
      refine zs_ldc2 (n := -1000000000000) (pc := 17) C dX9_bounded_17 q_X9_362 (by decide) (by decide) ?_
      refine zs_lcmp (pc := 20) C dX9_bounded_20 (fun z20 hz20 => ?_)
      refine zs_if_ge (tgt := 28) (pc := 21) C dX9_bounded_21 (by decide) (fun h21 => ?_) (fun h21 => ?_)
      · skip
        refine zs_iconst (pc := 28) C dX9_bounded_28 (by decide) ?_
        refine zs_putz (r := 1050) (pc := 29) C dX9_bounded_29 w_X9_357 f_10_50 rfl (r_1050 0) (by omega) (by omega) ?_
        refine zs_aload_n (pc := 32) C dX9_bounded_32 rfl ?_
        refine zs_getz (r := 1050) (pc := 33) C dX9_bounded_33 w_X9_357 f_10_50 rfl (r_1050 0) (fun v33 e33 l33 u33 => ?_)
        try simp only [zuI_1, zuI_2, zuJ_1, zuJ_2, zuJ_3, zuP_1, zuP_2, zuP_3, zuC_1, zuC_2, reduceIte, Nat.reduceEqDiff, false_and, and_false, true_and, and_true, and_self, or_true, true_or, or_false, false_or] at e33
        refine zs_if_eq (tgt := 43) (pc := 36) C dX9_bounded_36 (by decide) (fun h36 => ?_) (fun h36 => ?_)
        · skip
          refine zs_lload_n (pc := 43) C dX9_bounded_43 rfl ?_
          exact zs_lret (pc := 44) C hr hlk dX9_bounded_44 ⟨by repeat (first | exact zsm_rf | assumption | refine zsm_C (by decide) ?_ | refine zsm_I (by decide) ?_ | refine zsm_J ?_ | refine zsm_c (by assumption) (by decide) ?_), (by with_reducible repeat (first | exact RO_rf | assumption | refine RO_0 (by decide) ?_ | refine RO_n 20 (by decide) (by omega) ?_ | refine RO_n 5 (by decide) (by omega) ?_ | refine RO_n 60 (by decide) (by omega) ?_ | refine RO_n 1 (by decide) (by omega) ?_ | refine RO_J (by decide) ?_ | refine RO_c (by assumption) ?_)), trivial⟩
        · skip
          refine zs_lconst (n := 0) (pc := 39) C dX9_bounded_39 rfl (by decide) ?_
          refine zs_goto (tgt := 44) (pc := 40) C dX9_bounded_40 (by decide) ?_
          exact zs_lret (pc := 44) C hr hlk dX9_bounded_44 ⟨by repeat (first | exact zsm_rf | assumption | refine zsm_C (by decide) ?_ | refine zsm_I (by decide) ?_ | refine zsm_J ?_ | refine zsm_c (by assumption) (by decide) ?_), (by with_reducible repeat (first | exact RO_rf | assumption | refine RO_0 (by decide) ?_ | refine RO_n 20 (by decide) (by omega) ?_ | refine RO_n 5 (by decide) (by omega) ?_ | refine RO_n 60 (by decide) (by omega) ?_ | refine RO_n 1 (by decide) (by omega) ?_ | refine RO_J (by decide) ?_ | refine RO_c (by assumption) ?_)), trivial⟩
      · skip
        refine zs_iconst (pc := 24) C dX9_bounded_24 (by decide) ?_
        refine zs_goto (tgt := 29) (pc := 25) C dX9_bounded_25 (by decide) ?_
        refine zs_putz (r := 1050) (pc := 29) C dX9_bounded_29 w_X9_357 f_10_50 rfl (r_1050 0) (by omega) (by omega) ?_
        refine zs_aload_n (pc := 32) C dX9_bounded_32 rfl ?_
        refine zs_getz (r := 1050) (pc := 33) C dX9_bounded_33 w_X9_357 f_10_50 rfl (r_1050 0) (fun v33 e33 l33 u33 => ?_)
        try simp only [zuI_1, zuI_2, zuJ_1, zuJ_2, zuJ_3, zuP_1, zuP_2, zuP_3, zuC_1, zuC_2, reduceIte, Nat.reduceEqDiff, false_and, and_false, true_and, and_true, and_self, or_true, true_or, or_false, false_or] at e33
        refine zs_if_eq (tgt := 43) (pc := 36) C dX9_bounded_36 (by decide) (fun h36 => ?_) (fun h36 => ?_)
        · skip
          refine zs_lload_n (pc := 43) C dX9_bounded_43 rfl ?_
          exact zs_lret (pc := 44) C hr hlk dX9_bounded_44 ⟨by repeat (first | exact zsm_rf | assumption | refine zsm_C (by decide) ?_ | refine zsm_I (by decide) ?_ | refine zsm_J ?_ | refine zsm_c (by assumption) (by decide) ?_), (by with_reducible repeat (first | exact RO_rf | assumption | refine RO_0 (by decide) ?_ | refine RO_n 20 (by decide) (by omega) ?_ | refine RO_n 5 (by decide) (by omega) ?_ | refine RO_n 60 (by decide) (by omega) ?_ | refine RO_n 1 (by decide) (by omega) ?_ | refine RO_J (by decide) ?_ | refine RO_c (by assumption) ?_)), trivial⟩
        · skip
          refine zs_lconst (n := 0) (pc := 39) C dX9_bounded_39 rfl (by decide) ?_
          refine zs_goto (tgt := 44) (pc := 40) C dX9_bounded_40 (by decide) ?_
          exact zs_lret (pc := 44) C hr hlk dX9_bounded_44 ⟨by repeat (first | exact zsm_rf | assumption | refine zsm_C (by decide) ?_ | refine zsm_I (by decide) ?_ | refine zsm_J ?_ | refine zsm_c (by assumption) (by decide) ?_), (by with_reducible repeat (first | exact RO_rf | assumption | refine RO_0 (by decide) ?_ | refine RO_n 20 (by decide) (by omega) ?_ | refine RO_n 5 (by decide) (by omega) ?_ | refine RO_n 60 (by decide) (by omega) ?_ | refine RO_n 1 (by decide) (by omega) ?_ | refine RO_J (by decide) ?_ | refine RO_c (by assumption) ?_)), trivial⟩

set_option maxHeartbeats 4000000 in
set_option maxRecDepth 100000 in
theorem c_X9_timesO {l : Launch} {Γ : zΓ} {G : zH} {w : Nat} {a b : Int} (hX : zXs Γ)  : zMet l Γ yX9_times cX9_times 6 (some .long) 0 [zr 10 w, zj a, zj b] G (zpj (fun x G' => zsm [1050] G G' ∧ RO G G' ∧ True)) := by
  refine zMet_of RX9 hX (by decide) rfl (Nat.le_of_ble_eq_true rfl) ?_
  intro p e s m args below meth c C hr hlk
  show Z p l e (zrm 0) s m args below meth c Γ 6 0 0 (MQ below (zQc Γ (zpj (fun x G' => zsm [1050] G G' ∧ RO G G' ∧ True))) args s 0 0 (zA Γ)) 0 [some (zr 10 w), some (zj a), none, some (zj b), none, none] [] G
  refine zs_lload_n (pc := 0) C dX9_times_0 rfl ?_
  refine zs_lconst (n := 0) (pc := 1) C dX9_times_1 rfl (by decide) ?_
  refine zs_lcmp (pc := 2) C dX9_times_2 (fun z2 hz2 => ?_)
  refine zs_if_eq (tgt := 48) (pc := 3) C dX9_times_3 (by decide) (fun h3 => ?_) (fun h3 => ?_)
  · skip
    refine zs_iconst (pc := 48) C dX9_times_48 (by decide) ?_
    refine zs_istore (pc := 49) C dX9_times_49 (by decide) ?_
    dsimp only [zset, zclr, znone]
    refine zs_aload_n (pc := 51) C dX9_times_51 rfl ?_
    refine zs_aload_n (pc := 52) C dX9_times_52 rfl ?_
    refine zs_getz (r := 1050) (pc := 53) C dX9_times_53 w_X9_357 f_10_50 rfl (r_1050 0) (fun v53 e53 l53 u53 => ?_)
    refine zs_if_ne (tgt := 64) (pc := 56) C dX9_times_56 (by decide) (fun h56 => ?_) (fun h56 => ?_)
    · skip
      refine zs_iconst (pc := 64) C dX9_times_64 (by decide) ?_
      refine zs_goto (tgt := 69) (pc := 65) C dX9_times_65 (by decide) ?_
      refine zs_putz (r := 1050) (pc := 69) C dX9_times_69 w_X9_357 f_10_50 rfl (r_1050 0) (by omega) (by omega) ?_
      refine zs_aload_n (pc := 72) C dX9_times_72 rfl ?_
      refine zs_getz (r := 1050) (pc := 73) C dX9_times_73 w_X9_357 f_10_50 rfl (r_1050 0) (fun v73 e73 l73 u73 => ?_)
      try simp only [zuI_1, zuI_2, zuJ_1, zuJ_2, zuJ_3, zuP_1, zuP_2, zuP_3, zuC_1, zuC_2, reduceIte, Nat.reduceEqDiff, false_and, and_false, true_and, and_true, and_self, or_true, true_or, or_false, false_or] at e73
      refine zs_if_eq (tgt := 83) (pc := 76) C dX9_times_76 (by decide) (fun h76 => ?_) (fun h76 => ?_)
      · skip
        refine zs_lload_n (pc := 83) C dX9_times_83 rfl ?_
        refine zs_lload_n (pc := 84) C dX9_times_84 rfl ?_
        refine zs_lmulF (pc := 85) C dX9_times_85 (fun z85 hz851 hz852 => ?_)
        exact zs_lret (pc := 86) C hr hlk dX9_times_86 ⟨by repeat (first | exact zsm_rf | assumption | refine zsm_C (by decide) ?_ | refine zsm_I (by decide) ?_ | refine zsm_J ?_ | refine zsm_c (by assumption) (by decide) ?_), (by with_reducible repeat (first | exact RO_rf | assumption | refine RO_0 (by decide) ?_ | refine RO_n 20 (by decide) (by omega) ?_ | refine RO_n 5 (by decide) (by omega) ?_ | refine RO_n 60 (by decide) (by omega) ?_ | refine RO_n 1 (by decide) (by omega) ?_ | refine RO_J (by decide) ?_ | refine RO_c (by assumption) ?_)), trivial⟩
      · skip
        refine zs_lconst (n := 0) (pc := 79) C dX9_times_79 rfl (by decide) ?_
        refine zs_goto (tgt := 86) (pc := 80) C dX9_times_80 (by decide) ?_
        exact zs_lret (pc := 86) C hr hlk dX9_times_86 ⟨by repeat (first | exact zsm_rf | assumption | refine zsm_C (by decide) ?_ | refine zsm_I (by decide) ?_ | refine zsm_J ?_ | refine zsm_c (by assumption) (by decide) ?_), (by with_reducible repeat (first | exact RO_rf | assumption | refine RO_0 (by decide) ?_ | refine RO_n 20 (by decide) (by omega) ?_ | refine RO_n 5 (by decide) (by omega) ?_ | refine RO_n 60 (by decide) (by omega) ?_ | refine RO_n 1 (by decide) (by omega) ?_ | refine RO_J (by decide) ?_ | refine RO_c (by assumption) ?_)), trivial⟩
    · skip
      refine zs_iload (pc := 59) C dX9_times_59 rfl ?_
      refine zs_if_eq (tgt := 68) (pc := 61) C dX9_times_61 (by decide) (fun h61 => ?_) (fun h61 => ?_)
      · skip
        refine zs_iconst (pc := 68) C dX9_times_68 (by decide) ?_
        refine zs_putz (r := 1050) (pc := 69) C dX9_times_69 w_X9_357 f_10_50 rfl (r_1050 0) (by omega) (by omega) ?_
        refine zs_aload_n (pc := 72) C dX9_times_72 rfl ?_
        refine zs_getz (r := 1050) (pc := 73) C dX9_times_73 w_X9_357 f_10_50 rfl (r_1050 0) (fun v73 e73 l73 u73 => ?_)
        try simp only [zuI_1, zuI_2, zuJ_1, zuJ_2, zuJ_3, zuP_1, zuP_2, zuP_3, zuC_1, zuC_2, reduceIte, Nat.reduceEqDiff, false_and, and_false, true_and, and_true, and_self, or_true, true_or, or_false, false_or] at e73
        refine zs_if_eq (tgt := 83) (pc := 76) C dX9_times_76 (by decide) (fun h76 => ?_) (fun h76 => ?_)
        · skip
          refine zs_lload_n (pc := 83) C dX9_times_83 rfl ?_
          refine zs_lload_n (pc := 84) C dX9_times_84 rfl ?_
          refine zs_lmulF (pc := 85) C dX9_times_85 (fun z85 hz851 hz852 => ?_)
          exact zs_lret (pc := 86) C hr hlk dX9_times_86 ⟨by repeat (first | exact zsm_rf | assumption | refine zsm_C (by decide) ?_ | refine zsm_I (by decide) ?_ | refine zsm_J ?_ | refine zsm_c (by assumption) (by decide) ?_), (by with_reducible repeat (first | exact RO_rf | assumption | refine RO_0 (by decide) ?_ | refine RO_n 20 (by decide) (by omega) ?_ | refine RO_n 5 (by decide) (by omega) ?_ | refine RO_n 60 (by decide) (by omega) ?_ | refine RO_n 1 (by decide) (by omega) ?_ | refine RO_J (by decide) ?_ | refine RO_c (by assumption) ?_)), trivial⟩
        · skip
          refine zs_lconst (n := 0) (pc := 79) C dX9_times_79 rfl (by decide) ?_
          refine zs_goto (tgt := 86) (pc := 80) C dX9_times_80 (by decide) ?_
          exact zs_lret (pc := 86) C hr hlk dX9_times_86 ⟨by repeat (first | exact zsm_rf | assumption | refine zsm_C (by decide) ?_ | refine zsm_I (by decide) ?_ | refine zsm_J ?_ | refine zsm_c (by assumption) (by decide) ?_), (by with_reducible repeat (first | exact RO_rf | assumption | refine RO_0 (by decide) ?_ | refine RO_n 20 (by decide) (by omega) ?_ | refine RO_n 5 (by decide) (by omega) ?_ | refine RO_n 60 (by decide) (by omega) ?_ | refine RO_n 1 (by decide) (by omega) ?_ | refine RO_J (by decide) ?_ | refine RO_c (by assumption) ?_)), trivial⟩
      · skip
        refine zs_iconst (pc := 64) C dX9_times_64 (by decide) ?_
        refine zs_goto (tgt := 69) (pc := 65) C dX9_times_65 (by decide) ?_
        refine zs_putz (r := 1050) (pc := 69) C dX9_times_69 w_X9_357 f_10_50 rfl (r_1050 0) (by omega) (by omega) ?_
        refine zs_aload_n (pc := 72) C dX9_times_72 rfl ?_
        refine zs_getz (r := 1050) (pc := 73) C dX9_times_73 w_X9_357 f_10_50 rfl (r_1050 0) (fun v73 e73 l73 u73 => ?_)
        try simp only [zuI_1, zuI_2, zuJ_1, zuJ_2, zuJ_3, zuP_1, zuP_2, zuP_3, zuC_1, zuC_2, reduceIte, Nat.reduceEqDiff, false_and, and_false, true_and, and_true, and_self, or_true, true_or, or_false, false_or] at e73
        refine zs_if_eq (tgt := 83) (pc := 76) C dX9_times_76 (by decide) (fun h76 => ?_) (fun h76 => ?_)
        · skip
          refine zs_lload_n (pc := 83) C dX9_times_83 rfl ?_
          refine zs_lload_n (pc := 84) C dX9_times_84 rfl ?_
          refine zs_lmulF (pc := 85) C dX9_times_85 (fun z85 hz851 hz852 => ?_)
          exact zs_lret (pc := 86) C hr hlk dX9_times_86 ⟨by repeat (first | exact zsm_rf | assumption | refine zsm_C (by decide) ?_ | refine zsm_I (by decide) ?_ | refine zsm_J ?_ | refine zsm_c (by assumption) (by decide) ?_), (by with_reducible repeat (first | exact RO_rf | assumption | refine RO_0 (by decide) ?_ | refine RO_n 20 (by decide) (by omega) ?_ | refine RO_n 5 (by decide) (by omega) ?_ | refine RO_n 60 (by decide) (by omega) ?_ | refine RO_n 1 (by decide) (by omega) ?_ | refine RO_J (by decide) ?_ | refine RO_c (by assumption) ?_)), trivial⟩
        · skip
          refine zs_lconst (n := 0) (pc := 79) C dX9_times_79 rfl (by decide) ?_
          refine zs_goto (tgt := 86) (pc := 80) C dX9_times_80 (by decide) ?_
          exact zs_lret (pc := 86) C hr hlk dX9_times_86 ⟨by repeat (first | exact zsm_rf | assumption | refine zsm_C (by decide) ?_ | refine zsm_I (by decide) ?_ | refine zsm_J ?_ | refine zsm_c (by assumption) (by decide) ?_), (by with_reducible repeat (first | exact RO_rf | assumption | refine RO_0 (by decide) ?_ | refine RO_n 20 (by decide) (by omega) ?_ | refine RO_n 5 (by decide) (by omega) ?_ | refine RO_n 60 (by decide) (by omega) ?_ | refine RO_n 1 (by decide) (by omega) ?_ | refine RO_J (by decide) ?_ | refine RO_c (by assumption) ?_)), trivial⟩
  · skip
    refine zs_lload_n (pc := 6) C dX9_times_6 rfl ?_
    refine zs_lconst (n := 0) (pc := 7) C dX9_times_7 rfl (by decide) ?_
    refine zs_lcmp (pc := 8) C dX9_times_8 (fun z8 hz8 => ?_)
    refine zs_if_eq (tgt := 48) (pc := 9) C dX9_times_9 (by decide) (fun h9 => ?_) (fun h9 => ?_)
    · skip
      refine zs_iconst (pc := 48) C dX9_times_48 (by decide) ?_
      refine zs_istore (pc := 49) C dX9_times_49 (by decide) ?_
      dsimp only [zset, zclr, znone]
      refine zs_aload_n (pc := 51) C dX9_times_51 rfl ?_
      refine zs_aload_n (pc := 52) C dX9_times_52 rfl ?_
      refine zs_getz (r := 1050) (pc := 53) C dX9_times_53 w_X9_357 f_10_50 rfl (r_1050 0) (fun v53 e53 l53 u53 => ?_)
      refine zs_if_ne (tgt := 64) (pc := 56) C dX9_times_56 (by decide) (fun h56 => ?_) (fun h56 => ?_)
      · skip
        refine zs_iconst (pc := 64) C dX9_times_64 (by decide) ?_
        refine zs_goto (tgt := 69) (pc := 65) C dX9_times_65 (by decide) ?_
        refine zs_putz (r := 1050) (pc := 69) C dX9_times_69 w_X9_357 f_10_50 rfl (r_1050 0) (by omega) (by omega) ?_
        refine zs_aload_n (pc := 72) C dX9_times_72 rfl ?_
        refine zs_getz (r := 1050) (pc := 73) C dX9_times_73 w_X9_357 f_10_50 rfl (r_1050 0) (fun v73 e73 l73 u73 => ?_)
        try simp only [zuI_1, zuI_2, zuJ_1, zuJ_2, zuJ_3, zuP_1, zuP_2, zuP_3, zuC_1, zuC_2, reduceIte, Nat.reduceEqDiff, false_and, and_false, true_and, and_true, and_self, or_true, true_or, or_false, false_or] at e73
        refine zs_if_eq (tgt := 83) (pc := 76) C dX9_times_76 (by decide) (fun h76 => ?_) (fun h76 => ?_)
        · skip
          refine zs_lload_n (pc := 83) C dX9_times_83 rfl ?_
          refine zs_lload_n (pc := 84) C dX9_times_84 rfl ?_
          refine zs_lmulF (pc := 85) C dX9_times_85 (fun z85 hz851 hz852 => ?_)
          exact zs_lret (pc := 86) C hr hlk dX9_times_86 ⟨by repeat (first | exact zsm_rf | assumption | refine zsm_C (by decide) ?_ | refine zsm_I (by decide) ?_ | refine zsm_J ?_ | refine zsm_c (by assumption) (by decide) ?_), (by with_reducible repeat (first | exact RO_rf | assumption | refine RO_0 (by decide) ?_ | refine RO_n 20 (by decide) (by omega) ?_ | refine RO_n 5 (by decide) (by omega) ?_ | refine RO_n 60 (by decide) (by omega) ?_ | refine RO_n 1 (by decide) (by omega) ?_ | refine RO_J (by decide) ?_ | refine RO_c (by assumption) ?_)), trivial⟩
        · skip
          refine zs_lconst (n := 0) (pc := 79) C dX9_times_79 rfl (by decide) ?_
          refine zs_goto (tgt := 86) (pc := 80) C dX9_times_80 (by decide) ?_
          exact zs_lret (pc := 86) C hr hlk dX9_times_86 ⟨by repeat (first | exact zsm_rf | assumption | refine zsm_C (by decide) ?_ | refine zsm_I (by decide) ?_ | refine zsm_J ?_ | refine zsm_c (by assumption) (by decide) ?_), (by with_reducible repeat (first | exact RO_rf | assumption | refine RO_0 (by decide) ?_ | refine RO_n 20 (by decide) (by omega) ?_ | refine RO_n 5 (by decide) (by omega) ?_ | refine RO_n 60 (by decide) (by omega) ?_ | refine RO_n 1 (by decide) (by omega) ?_ | refine RO_J (by decide) ?_ | refine RO_c (by assumption) ?_)), trivial⟩
      · skip
        refine zs_iload (pc := 59) C dX9_times_59 rfl ?_
        refine zs_if_eq (tgt := 68) (pc := 61) C dX9_times_61 (by decide) (fun h61 => ?_) (fun h61 => ?_)
        · skip
          refine zs_iconst (pc := 68) C dX9_times_68 (by decide) ?_
          refine zs_putz (r := 1050) (pc := 69) C dX9_times_69 w_X9_357 f_10_50 rfl (r_1050 0) (by omega) (by omega) ?_
          refine zs_aload_n (pc := 72) C dX9_times_72 rfl ?_
          refine zs_getz (r := 1050) (pc := 73) C dX9_times_73 w_X9_357 f_10_50 rfl (r_1050 0) (fun v73 e73 l73 u73 => ?_)
          try simp only [zuI_1, zuI_2, zuJ_1, zuJ_2, zuJ_3, zuP_1, zuP_2, zuP_3, zuC_1, zuC_2, reduceIte, Nat.reduceEqDiff, false_and, and_false, true_and, and_true, and_self, or_true, true_or, or_false, false_or] at e73
          refine zs_if_eq (tgt := 83) (pc := 76) C dX9_times_76 (by decide) (fun h76 => ?_) (fun h76 => ?_)
          · skip
            refine zs_lload_n (pc := 83) C dX9_times_83 rfl ?_
            refine zs_lload_n (pc := 84) C dX9_times_84 rfl ?_
            refine zs_lmulF (pc := 85) C dX9_times_85 (fun z85 hz851 hz852 => ?_)
            exact zs_lret (pc := 86) C hr hlk dX9_times_86 ⟨by repeat (first | exact zsm_rf | assumption | refine zsm_C (by decide) ?_ | refine zsm_I (by decide) ?_ | refine zsm_J ?_ | refine zsm_c (by assumption) (by decide) ?_), (by with_reducible repeat (first | exact RO_rf | assumption | refine RO_0 (by decide) ?_ | refine RO_n 20 (by decide) (by omega) ?_ | refine RO_n 5 (by decide) (by omega) ?_ | refine RO_n 60 (by decide) (by omega) ?_ | refine RO_n 1 (by decide) (by omega) ?_ | refine RO_J (by decide) ?_ | refine RO_c (by assumption) ?_)), trivial⟩
          · skip
            refine zs_lconst (n := 0) (pc := 79) C dX9_times_79 rfl (by decide) ?_
            refine zs_goto (tgt := 86) (pc := 80) C dX9_times_80 (by decide) ?_
            exact zs_lret (pc := 86) C hr hlk dX9_times_86 ⟨by repeat (first | exact zsm_rf | assumption | refine zsm_C (by decide) ?_ | refine zsm_I (by decide) ?_ | refine zsm_J ?_ | refine zsm_c (by assumption) (by decide) ?_), (by with_reducible repeat (first | exact RO_rf | assumption | refine RO_0 (by decide) ?_ | refine RO_n 20 (by decide) (by omega) ?_ | refine RO_n 5 (by decide) (by omega) ?_ | refine RO_n 60 (by decide) (by omega) ?_ | refine RO_n 1 (by decide) (by omega) ?_ | refine RO_J (by decide) ?_ | refine RO_c (by assumption) ?_)), trivial⟩
        · skip
          refine zs_iconst (pc := 64) C dX9_times_64 (by decide) ?_
          refine zs_goto (tgt := 69) (pc := 65) C dX9_times_65 (by decide) ?_
          refine zs_putz (r := 1050) (pc := 69) C dX9_times_69 w_X9_357 f_10_50 rfl (r_1050 0) (by omega) (by omega) ?_
          refine zs_aload_n (pc := 72) C dX9_times_72 rfl ?_
          refine zs_getz (r := 1050) (pc := 73) C dX9_times_73 w_X9_357 f_10_50 rfl (r_1050 0) (fun v73 e73 l73 u73 => ?_)
          try simp only [zuI_1, zuI_2, zuJ_1, zuJ_2, zuJ_3, zuP_1, zuP_2, zuP_3, zuC_1, zuC_2, reduceIte, Nat.reduceEqDiff, false_and, and_false, true_and, and_true, and_self, or_true, true_or, or_false, false_or] at e73
          refine zs_if_eq (tgt := 83) (pc := 76) C dX9_times_76 (by decide) (fun h76 => ?_) (fun h76 => ?_)
          · skip
            refine zs_lload_n (pc := 83) C dX9_times_83 rfl ?_
            refine zs_lload_n (pc := 84) C dX9_times_84 rfl ?_
            refine zs_lmulF (pc := 85) C dX9_times_85 (fun z85 hz851 hz852 => ?_)
            exact zs_lret (pc := 86) C hr hlk dX9_times_86 ⟨by repeat (first | exact zsm_rf | assumption | refine zsm_C (by decide) ?_ | refine zsm_I (by decide) ?_ | refine zsm_J ?_ | refine zsm_c (by assumption) (by decide) ?_), (by with_reducible repeat (first | exact RO_rf | assumption | refine RO_0 (by decide) ?_ | refine RO_n 20 (by decide) (by omega) ?_ | refine RO_n 5 (by decide) (by omega) ?_ | refine RO_n 60 (by decide) (by omega) ?_ | refine RO_n 1 (by decide) (by omega) ?_ | refine RO_J (by decide) ?_ | refine RO_c (by assumption) ?_)), trivial⟩
          · skip
            refine zs_lconst (n := 0) (pc := 79) C dX9_times_79 rfl (by decide) ?_
            refine zs_goto (tgt := 86) (pc := 80) C dX9_times_80 (by decide) ?_
            exact zs_lret (pc := 86) C hr hlk dX9_times_86 ⟨by repeat (first | exact zsm_rf | assumption | refine zsm_C (by decide) ?_ | refine zsm_I (by decide) ?_ | refine zsm_J ?_ | refine zsm_c (by assumption) (by decide) ?_), (by with_reducible repeat (first | exact RO_rf | assumption | refine RO_0 (by decide) ?_ | refine RO_n 20 (by decide) (by omega) ?_ | refine RO_n 5 (by decide) (by omega) ?_ | refine RO_n 60 (by decide) (by omega) ?_ | refine RO_n 1 (by decide) (by omega) ?_ | refine RO_J (by decide) ?_ | refine RO_c (by assumption) ?_)), trivial⟩
    · skip
      refine zs_lload_n (pc := 12) C dX9_times_12 rfl ?_
      refine zs_lconst (n := 0) (pc := 13) C dX9_times_13 rfl (by decide) ?_
      refine zs_lcmp (pc := 14) C dX9_times_14 (fun z14 hz14 => ?_)
      refine zs_if_ge (tgt := 23) (pc := 15) C dX9_times_15 (by decide) (fun h15 => ?_) (fun h15 => ?_)
      · skip
        refine zs_lload_n (pc := 23) C dX9_times_23 rfl ?_
        refine zs_ldc2 (n := 1000000000000) (pc := 24) C dX9_times_24 q_X9_360 (by decide) (by decide) ?_
        refine zs_lload_n (pc := 27) C dX9_times_27 rfl ?_
        refine zs_lconst (n := 0) (pc := 28) C dX9_times_28 rfl (by decide) ?_
        refine zs_lcmp (pc := 29) C dX9_times_29 (fun z29 hz29 => ?_)
        refine zs_if_ge (tgt := 38) (pc := 30) C dX9_times_30 (by decide) (fun h30 => ?_) (fun h30 => ?_)
        · skip
          refine zs_lload_n (pc := 38) C dX9_times_38 rfl ?_
          refine zs_ldiv (pc := 39) C dX9_times_39 (by omega) (fun z39 hz391 hz392 => ?_)
          refine zs_lcmp (pc := 40) C dX9_times_40 (fun z40 hz40 => ?_)
          refine zs_if_le (tgt := 48) (pc := 41) C dX9_times_41 (by decide) (fun h41 => ?_) (fun h41 => ?_)
          · skip
            refine zs_iconst (pc := 48) C dX9_times_48 (by decide) ?_
            refine zs_istore (pc := 49) C dX9_times_49 (by decide) ?_
            dsimp only [zset, zclr, znone]
            refine zs_aload_n (pc := 51) C dX9_times_51 rfl ?_
            refine zs_aload_n (pc := 52) C dX9_times_52 rfl ?_
            refine zs_getz (r := 1050) (pc := 53) C dX9_times_53 w_X9_357 f_10_50 rfl (r_1050 0) (fun v53 e53 l53 u53 => ?_)
            refine zs_if_ne (tgt := 64) (pc := 56) C dX9_times_56 (by decide) (fun h56 => ?_) (fun h56 => ?_)
            · skip
              refine zs_iconst (pc := 64) C dX9_times_64 (by decide) ?_
              refine zs_goto (tgt := 69) (pc := 65) C dX9_times_65 (by decide) ?_
              refine zs_putz (r := 1050) (pc := 69) C dX9_times_69 w_X9_357 f_10_50 rfl (r_1050 0) (by omega) (by omega) ?_
              refine zs_aload_n (pc := 72) C dX9_times_72 rfl ?_
              refine zs_getz (r := 1050) (pc := 73) C dX9_times_73 w_X9_357 f_10_50 rfl (r_1050 0) (fun v73 e73 l73 u73 => ?_)
              try simp only [zuI_1, zuI_2, zuJ_1, zuJ_2, zuJ_3, zuP_1, zuP_2, zuP_3, zuC_1, zuC_2, reduceIte, Nat.reduceEqDiff, false_and, and_false, true_and, and_true, and_self, or_true, true_or, or_false, false_or] at e73
              refine zs_if_eq (tgt := 83) (pc := 76) C dX9_times_76 (by decide) (fun h76 => ?_) (fun h76 => ?_)
              · skip
                refine zs_lload_n (pc := 83) C dX9_times_83 rfl ?_
                refine zs_lload_n (pc := 84) C dX9_times_84 rfl ?_
                refine zs_lmulF (pc := 85) C dX9_times_85 (fun z85 hz851 hz852 => ?_)
                exact zs_lret (pc := 86) C hr hlk dX9_times_86 ⟨by repeat (first | exact zsm_rf | assumption | refine zsm_C (by decide) ?_ | refine zsm_I (by decide) ?_ | refine zsm_J ?_ | refine zsm_c (by assumption) (by decide) ?_), (by with_reducible repeat (first | exact RO_rf | assumption | refine RO_0 (by decide) ?_ | refine RO_n 20 (by decide) (by omega) ?_ | refine RO_n 5 (by decide) (by omega) ?_ | refine RO_n 60 (by decide) (by omega) ?_ | refine RO_n 1 (by decide) (by omega) ?_ | refine RO_J (by decide) ?_ | refine RO_c (by assumption) ?_)), trivial⟩
              · skip
                refine zs_lconst (n := 0) (pc := 79) C dX9_times_79 rfl (by decide) ?_
                refine zs_goto (tgt := 86) (pc := 80) C dX9_times_80 (by decide) ?_
                exact zs_lret (pc := 86) C hr hlk dX9_times_86 ⟨by repeat (first | exact zsm_rf | assumption | refine zsm_C (by decide) ?_ | refine zsm_I (by decide) ?_ | refine zsm_J ?_ | refine zsm_c (by assumption) (by decide) ?_), (by with_reducible repeat (first | exact RO_rf | assumption | refine RO_0 (by decide) ?_ | refine RO_n 20 (by decide) (by omega) ?_ | refine RO_n 5 (by decide) (by omega) ?_ | refine RO_n 60 (by decide) (by omega) ?_ | refine RO_n 1 (by decide) (by omega) ?_ | refine RO_J (by decide) ?_ | refine RO_c (by assumption) ?_)), trivial⟩
            · skip
              refine zs_iload (pc := 59) C dX9_times_59 rfl ?_
              refine zs_if_eq (tgt := 68) (pc := 61) C dX9_times_61 (by decide) (fun h61 => ?_) (fun h61 => ?_)
              · skip
                refine zs_iconst (pc := 68) C dX9_times_68 (by decide) ?_
                refine zs_putz (r := 1050) (pc := 69) C dX9_times_69 w_X9_357 f_10_50 rfl (r_1050 0) (by omega) (by omega) ?_
                refine zs_aload_n (pc := 72) C dX9_times_72 rfl ?_
                refine zs_getz (r := 1050) (pc := 73) C dX9_times_73 w_X9_357 f_10_50 rfl (r_1050 0) (fun v73 e73 l73 u73 => ?_)
                try simp only [zuI_1, zuI_2, zuJ_1, zuJ_2, zuJ_3, zuP_1, zuP_2, zuP_3, zuC_1, zuC_2, reduceIte, Nat.reduceEqDiff, false_and, and_false, true_and, and_true, and_self, or_true, true_or, or_false, false_or] at e73
                refine zs_if_eq (tgt := 83) (pc := 76) C dX9_times_76 (by decide) (fun h76 => ?_) (fun h76 => ?_)
                · skip
                  refine zs_lload_n (pc := 83) C dX9_times_83 rfl ?_
                  refine zs_lload_n (pc := 84) C dX9_times_84 rfl ?_
                  refine zs_lmulF (pc := 85) C dX9_times_85 (fun z85 hz851 hz852 => ?_)
                  exact zs_lret (pc := 86) C hr hlk dX9_times_86 ⟨by repeat (first | exact zsm_rf | assumption | refine zsm_C (by decide) ?_ | refine zsm_I (by decide) ?_ | refine zsm_J ?_ | refine zsm_c (by assumption) (by decide) ?_), (by with_reducible repeat (first | exact RO_rf | assumption | refine RO_0 (by decide) ?_ | refine RO_n 20 (by decide) (by omega) ?_ | refine RO_n 5 (by decide) (by omega) ?_ | refine RO_n 60 (by decide) (by omega) ?_ | refine RO_n 1 (by decide) (by omega) ?_ | refine RO_J (by decide) ?_ | refine RO_c (by assumption) ?_)), trivial⟩
                · skip
                  refine zs_lconst (n := 0) (pc := 79) C dX9_times_79 rfl (by decide) ?_
                  refine zs_goto (tgt := 86) (pc := 80) C dX9_times_80 (by decide) ?_
                  exact zs_lret (pc := 86) C hr hlk dX9_times_86 ⟨by repeat (first | exact zsm_rf | assumption | refine zsm_C (by decide) ?_ | refine zsm_I (by decide) ?_ | refine zsm_J ?_ | refine zsm_c (by assumption) (by decide) ?_), (by with_reducible repeat (first | exact RO_rf | assumption | refine RO_0 (by decide) ?_ | refine RO_n 20 (by decide) (by omega) ?_ | refine RO_n 5 (by decide) (by omega) ?_ | refine RO_n 60 (by decide) (by omega) ?_ | refine RO_n 1 (by decide) (by omega) ?_ | refine RO_J (by decide) ?_ | refine RO_c (by assumption) ?_)), trivial⟩
              · skip
                refine zs_iconst (pc := 64) C dX9_times_64 (by decide) ?_
                refine zs_goto (tgt := 69) (pc := 65) C dX9_times_65 (by decide) ?_
                refine zs_putz (r := 1050) (pc := 69) C dX9_times_69 w_X9_357 f_10_50 rfl (r_1050 0) (by omega) (by omega) ?_
                refine zs_aload_n (pc := 72) C dX9_times_72 rfl ?_
                refine zs_getz (r := 1050) (pc := 73) C dX9_times_73 w_X9_357 f_10_50 rfl (r_1050 0) (fun v73 e73 l73 u73 => ?_)
                try simp only [zuI_1, zuI_2, zuJ_1, zuJ_2, zuJ_3, zuP_1, zuP_2, zuP_3, zuC_1, zuC_2, reduceIte, Nat.reduceEqDiff, false_and, and_false, true_and, and_true, and_self, or_true, true_or, or_false, false_or] at e73
                refine zs_if_eq (tgt := 83) (pc := 76) C dX9_times_76 (by decide) (fun h76 => ?_) (fun h76 => ?_)
                · skip
                  refine zs_lload_n (pc := 83) C dX9_times_83 rfl ?_
                  refine zs_lload_n (pc := 84) C dX9_times_84 rfl ?_
                  refine zs_lmulF (pc := 85) C dX9_times_85 (fun z85 hz851 hz852 => ?_)
                  exact zs_lret (pc := 86) C hr hlk dX9_times_86 ⟨by repeat (first | exact zsm_rf | assumption | refine zsm_C (by decide) ?_ | refine zsm_I (by decide) ?_ | refine zsm_J ?_ | refine zsm_c (by assumption) (by decide) ?_), (by with_reducible repeat (first | exact RO_rf | assumption | refine RO_0 (by decide) ?_ | refine RO_n 20 (by decide) (by omega) ?_ | refine RO_n 5 (by decide) (by omega) ?_ | refine RO_n 60 (by decide) (by omega) ?_ | refine RO_n 1 (by decide) (by omega) ?_ | refine RO_J (by decide) ?_ | refine RO_c (by assumption) ?_)), trivial⟩
                · skip
                  refine zs_lconst (n := 0) (pc := 79) C dX9_times_79 rfl (by decide) ?_
                  refine zs_goto (tgt := 86) (pc := 80) C dX9_times_80 (by decide) ?_
                  exact zs_lret (pc := 86) C hr hlk dX9_times_86 ⟨by repeat (first | exact zsm_rf | assumption | refine zsm_C (by decide) ?_ | refine zsm_I (by decide) ?_ | refine zsm_J ?_ | refine zsm_c (by assumption) (by decide) ?_), (by with_reducible repeat (first | exact RO_rf | assumption | refine RO_0 (by decide) ?_ | refine RO_n 20 (by decide) (by omega) ?_ | refine RO_n 5 (by decide) (by omega) ?_ | refine RO_n 60 (by decide) (by omega) ?_ | refine RO_n 1 (by decide) (by omega) ?_ | refine RO_J (by decide) ?_ | refine RO_c (by assumption) ?_)), trivial⟩
          · skip
            refine zs_iconst (pc := 44) C dX9_times_44 (by decide) ?_
            refine zs_goto (tgt := 49) (pc := 45) C dX9_times_45 (by decide) ?_
            refine zs_istore (pc := 49) C dX9_times_49 (by decide) ?_
            dsimp only [zset, zclr, znone]
            refine zs_aload_n (pc := 51) C dX9_times_51 rfl ?_
            refine zs_aload_n (pc := 52) C dX9_times_52 rfl ?_
            refine zs_getz (r := 1050) (pc := 53) C dX9_times_53 w_X9_357 f_10_50 rfl (r_1050 0) (fun v53 e53 l53 u53 => ?_)
            refine zs_if_ne (tgt := 64) (pc := 56) C dX9_times_56 (by decide) (fun h56 => ?_) (fun h56 => ?_)
            · skip
              refine zs_iconst (pc := 64) C dX9_times_64 (by decide) ?_
              refine zs_goto (tgt := 69) (pc := 65) C dX9_times_65 (by decide) ?_
              refine zs_putz (r := 1050) (pc := 69) C dX9_times_69 w_X9_357 f_10_50 rfl (r_1050 0) (by omega) (by omega) ?_
              refine zs_aload_n (pc := 72) C dX9_times_72 rfl ?_
              refine zs_getz (r := 1050) (pc := 73) C dX9_times_73 w_X9_357 f_10_50 rfl (r_1050 0) (fun v73 e73 l73 u73 => ?_)
              try simp only [zuI_1, zuI_2, zuJ_1, zuJ_2, zuJ_3, zuP_1, zuP_2, zuP_3, zuC_1, zuC_2, reduceIte, Nat.reduceEqDiff, false_and, and_false, true_and, and_true, and_self, or_true, true_or, or_false, false_or] at e73
              refine zs_if_eq (tgt := 83) (pc := 76) C dX9_times_76 (by decide) (fun h76 => ?_) (fun h76 => ?_)
              · skip
                refine zs_lload_n (pc := 83) C dX9_times_83 rfl ?_
                refine zs_lload_n (pc := 84) C dX9_times_84 rfl ?_
                refine zs_lmulF (pc := 85) C dX9_times_85 (fun z85 hz851 hz852 => ?_)
                exact zs_lret (pc := 86) C hr hlk dX9_times_86 ⟨by repeat (first | exact zsm_rf | assumption | refine zsm_C (by decide) ?_ | refine zsm_I (by decide) ?_ | refine zsm_J ?_ | refine zsm_c (by assumption) (by decide) ?_), (by with_reducible repeat (first | exact RO_rf | assumption | refine RO_0 (by decide) ?_ | refine RO_n 20 (by decide) (by omega) ?_ | refine RO_n 5 (by decide) (by omega) ?_ | refine RO_n 60 (by decide) (by omega) ?_ | refine RO_n 1 (by decide) (by omega) ?_ | refine RO_J (by decide) ?_ | refine RO_c (by assumption) ?_)), trivial⟩
              · skip
                refine zs_lconst (n := 0) (pc := 79) C dX9_times_79 rfl (by decide) ?_
                refine zs_goto (tgt := 86) (pc := 80) C dX9_times_80 (by decide) ?_
                exact zs_lret (pc := 86) C hr hlk dX9_times_86 ⟨by repeat (first | exact zsm_rf | assumption | refine zsm_C (by decide) ?_ | refine zsm_I (by decide) ?_ | refine zsm_J ?_ | refine zsm_c (by assumption) (by decide) ?_), (by with_reducible repeat (first | exact RO_rf | assumption | refine RO_0 (by decide) ?_ | refine RO_n 20 (by decide) (by omega) ?_ | refine RO_n 5 (by decide) (by omega) ?_ | refine RO_n 60 (by decide) (by omega) ?_ | refine RO_n 1 (by decide) (by omega) ?_ | refine RO_J (by decide) ?_ | refine RO_c (by assumption) ?_)), trivial⟩
            · skip
              refine zs_iload (pc := 59) C dX9_times_59 rfl ?_
              refine zs_if_eq (tgt := 68) (pc := 61) C dX9_times_61 (by decide) (fun h61 => ?_) (fun h61 => ?_)
              · skip
                refine zs_iconst (pc := 68) C dX9_times_68 (by decide) ?_
                refine zs_putz (r := 1050) (pc := 69) C dX9_times_69 w_X9_357 f_10_50 rfl (r_1050 0) (by omega) (by omega) ?_
                refine zs_aload_n (pc := 72) C dX9_times_72 rfl ?_
                refine zs_getz (r := 1050) (pc := 73) C dX9_times_73 w_X9_357 f_10_50 rfl (r_1050 0) (fun v73 e73 l73 u73 => ?_)
                try simp only [zuI_1, zuI_2, zuJ_1, zuJ_2, zuJ_3, zuP_1, zuP_2, zuP_3, zuC_1, zuC_2, reduceIte, Nat.reduceEqDiff, false_and, and_false, true_and, and_true, and_self, or_true, true_or, or_false, false_or] at e73
                refine zs_if_eq (tgt := 83) (pc := 76) C dX9_times_76 (by decide) (fun h76 => ?_) (fun h76 => ?_)
                · skip
                  refine zs_lload_n (pc := 83) C dX9_times_83 rfl ?_
                  refine zs_lload_n (pc := 84) C dX9_times_84 rfl ?_
                  refine zs_lmulF (pc := 85) C dX9_times_85 (fun z85 hz851 hz852 => ?_)
                  exact zs_lret (pc := 86) C hr hlk dX9_times_86 ⟨by repeat (first | exact zsm_rf | assumption | refine zsm_C (by decide) ?_ | refine zsm_I (by decide) ?_ | refine zsm_J ?_ | refine zsm_c (by assumption) (by decide) ?_), (by with_reducible repeat (first | exact RO_rf | assumption | refine RO_0 (by decide) ?_ | refine RO_n 20 (by decide) (by omega) ?_ | refine RO_n 5 (by decide) (by omega) ?_ | refine RO_n 60 (by decide) (by omega) ?_ | refine RO_n 1 (by decide) (by omega) ?_ | refine RO_J (by decide) ?_ | refine RO_c (by assumption) ?_)), trivial⟩
                · skip
                  refine zs_lconst (n := 0) (pc := 79) C dX9_times_79 rfl (by decide) ?_
                  refine zs_goto (tgt := 86) (pc := 80) C dX9_times_80 (by decide) ?_
                  exact zs_lret (pc := 86) C hr hlk dX9_times_86 ⟨by repeat (first | exact zsm_rf | assumption | refine zsm_C (by decide) ?_ | refine zsm_I (by decide) ?_ | refine zsm_J ?_ | refine zsm_c (by assumption) (by decide) ?_), (by with_reducible repeat (first | exact RO_rf | assumption | refine RO_0 (by decide) ?_ | refine RO_n 20 (by decide) (by omega) ?_ | refine RO_n 5 (by decide) (by omega) ?_ | refine RO_n 60 (by decide) (by omega) ?_ | refine RO_n 1 (by decide) (by omega) ?_ | refine RO_J (by decide) ?_ | refine RO_c (by assumption) ?_)), trivial⟩
              · skip
                refine zs_iconst (pc := 64) C dX9_times_64 (by decide) ?_
                refine zs_goto (tgt := 69) (pc := 65) C dX9_times_65 (by decide) ?_
                refine zs_putz (r := 1050) (pc := 69) C dX9_times_69 w_X9_357 f_10_50 rfl (r_1050 0) (by omega) (by omega) ?_
                refine zs_aload_n (pc := 72) C dX9_times_72 rfl ?_
                refine zs_getz (r := 1050) (pc := 73) C dX9_times_73 w_X9_357 f_10_50 rfl (r_1050 0) (fun v73 e73 l73 u73 => ?_)
                try simp only [zuI_1, zuI_2, zuJ_1, zuJ_2, zuJ_3, zuP_1, zuP_2, zuP_3, zuC_1, zuC_2, reduceIte, Nat.reduceEqDiff, false_and, and_false, true_and, and_true, and_self, or_true, true_or, or_false, false_or] at e73
                refine zs_if_eq (tgt := 83) (pc := 76) C dX9_times_76 (by decide) (fun h76 => ?_) (fun h76 => ?_)
                · skip
                  refine zs_lload_n (pc := 83) C dX9_times_83 rfl ?_
                  refine zs_lload_n (pc := 84) C dX9_times_84 rfl ?_
                  refine zs_lmulF (pc := 85) C dX9_times_85 (fun z85 hz851 hz852 => ?_)
                  exact zs_lret (pc := 86) C hr hlk dX9_times_86 ⟨by repeat (first | exact zsm_rf | assumption | refine zsm_C (by decide) ?_ | refine zsm_I (by decide) ?_ | refine zsm_J ?_ | refine zsm_c (by assumption) (by decide) ?_), (by with_reducible repeat (first | exact RO_rf | assumption | refine RO_0 (by decide) ?_ | refine RO_n 20 (by decide) (by omega) ?_ | refine RO_n 5 (by decide) (by omega) ?_ | refine RO_n 60 (by decide) (by omega) ?_ | refine RO_n 1 (by decide) (by omega) ?_ | refine RO_J (by decide) ?_ | refine RO_c (by assumption) ?_)), trivial⟩
                · skip
                  refine zs_lconst (n := 0) (pc := 79) C dX9_times_79 rfl (by decide) ?_
                  refine zs_goto (tgt := 86) (pc := 80) C dX9_times_80 (by decide) ?_
                  exact zs_lret (pc := 86) C hr hlk dX9_times_86 ⟨by repeat (first | exact zsm_rf | assumption | refine zsm_C (by decide) ?_ | refine zsm_I (by decide) ?_ | refine zsm_J ?_ | refine zsm_c (by assumption) (by decide) ?_), (by with_reducible repeat (first | exact RO_rf | assumption | refine RO_0 (by decide) ?_ | refine RO_n 20 (by decide) (by omega) ?_ | refine RO_n 5 (by decide) (by omega) ?_ | refine RO_n 60 (by decide) (by omega) ?_ | refine RO_n 1 (by decide) (by omega) ?_ | refine RO_J (by decide) ?_ | refine RO_c (by assumption) ?_)), trivial⟩
        · skip
          refine zs_lload_n (pc := 33) C dX9_times_33 rfl ?_
          refine zs_lneg (pc := 34) C dX9_times_34 (fun z34 hz341 hz342 hz343 => ?_)
          refine zs_goto (tgt := 39) (pc := 35) C dX9_times_35 (by decide) ?_
          refine zs_ldiv (pc := 39) C dX9_times_39 (by omega) (fun z39 hz391 hz392 => ?_)
          refine zs_lcmp (pc := 40) C dX9_times_40 (fun z40 hz40 => ?_)
          refine zs_if_le (tgt := 48) (pc := 41) C dX9_times_41 (by decide) (fun h41 => ?_) (fun h41 => ?_)
          · skip
            refine zs_iconst (pc := 48) C dX9_times_48 (by decide) ?_
            refine zs_istore (pc := 49) C dX9_times_49 (by decide) ?_
            dsimp only [zset, zclr, znone]
            refine zs_aload_n (pc := 51) C dX9_times_51 rfl ?_
            refine zs_aload_n (pc := 52) C dX9_times_52 rfl ?_
            refine zs_getz (r := 1050) (pc := 53) C dX9_times_53 w_X9_357 f_10_50 rfl (r_1050 0) (fun v53 e53 l53 u53 => ?_)
            refine zs_if_ne (tgt := 64) (pc := 56) C dX9_times_56 (by decide) (fun h56 => ?_) (fun h56 => ?_)
            · skip
              refine zs_iconst (pc := 64) C dX9_times_64 (by decide) ?_
              refine zs_goto (tgt := 69) (pc := 65) C dX9_times_65 (by decide) ?_
              refine zs_putz (r := 1050) (pc := 69) C dX9_times_69 w_X9_357 f_10_50 rfl (r_1050 0) (by omega) (by omega) ?_
              refine zs_aload_n (pc := 72) C dX9_times_72 rfl ?_
              refine zs_getz (r := 1050) (pc := 73) C dX9_times_73 w_X9_357 f_10_50 rfl (r_1050 0) (fun v73 e73 l73 u73 => ?_)
              try simp only [zuI_1, zuI_2, zuJ_1, zuJ_2, zuJ_3, zuP_1, zuP_2, zuP_3, zuC_1, zuC_2, reduceIte, Nat.reduceEqDiff, false_and, and_false, true_and, and_true, and_self, or_true, true_or, or_false, false_or] at e73
              refine zs_if_eq (tgt := 83) (pc := 76) C dX9_times_76 (by decide) (fun h76 => ?_) (fun h76 => ?_)
              · skip
                refine zs_lload_n (pc := 83) C dX9_times_83 rfl ?_
                refine zs_lload_n (pc := 84) C dX9_times_84 rfl ?_
                refine zs_lmulF (pc := 85) C dX9_times_85 (fun z85 hz851 hz852 => ?_)
                exact zs_lret (pc := 86) C hr hlk dX9_times_86 ⟨by repeat (first | exact zsm_rf | assumption | refine zsm_C (by decide) ?_ | refine zsm_I (by decide) ?_ | refine zsm_J ?_ | refine zsm_c (by assumption) (by decide) ?_), (by with_reducible repeat (first | exact RO_rf | assumption | refine RO_0 (by decide) ?_ | refine RO_n 20 (by decide) (by omega) ?_ | refine RO_n 5 (by decide) (by omega) ?_ | refine RO_n 60 (by decide) (by omega) ?_ | refine RO_n 1 (by decide) (by omega) ?_ | refine RO_J (by decide) ?_ | refine RO_c (by assumption) ?_)), trivial⟩
              · skip
                refine zs_lconst (n := 0) (pc := 79) C dX9_times_79 rfl (by decide) ?_
                refine zs_goto (tgt := 86) (pc := 80) C dX9_times_80 (by decide) ?_
                exact zs_lret (pc := 86) C hr hlk dX9_times_86 ⟨by repeat (first | exact zsm_rf | assumption | refine zsm_C (by decide) ?_ | refine zsm_I (by decide) ?_ | refine zsm_J ?_ | refine zsm_c (by assumption) (by decide) ?_), (by with_reducible repeat (first | exact RO_rf | assumption | refine RO_0 (by decide) ?_ | refine RO_n 20 (by decide) (by omega) ?_ | refine RO_n 5 (by decide) (by omega) ?_ | refine RO_n 60 (by decide) (by omega) ?_ | refine RO_n 1 (by decide) (by omega) ?_ | refine RO_J (by decide) ?_ | refine RO_c (by assumption) ?_)), trivial⟩
            · skip
              refine zs_iload (pc := 59) C dX9_times_59 rfl ?_
              refine zs_if_eq (tgt := 68) (pc := 61) C dX9_times_61 (by decide) (fun h61 => ?_) (fun h61 => ?_)
              · skip
                refine zs_iconst (pc := 68) C dX9_times_68 (by decide) ?_
                refine zs_putz (r := 1050) (pc := 69) C dX9_times_69 w_X9_357 f_10_50 rfl (r_1050 0) (by omega) (by omega) ?_
                refine zs_aload_n (pc := 72) C dX9_times_72 rfl ?_
                refine zs_getz (r := 1050) (pc := 73) C dX9_times_73 w_X9_357 f_10_50 rfl (r_1050 0) (fun v73 e73 l73 u73 => ?_)
                try simp only [zuI_1, zuI_2, zuJ_1, zuJ_2, zuJ_3, zuP_1, zuP_2, zuP_3, zuC_1, zuC_2, reduceIte, Nat.reduceEqDiff, false_and, and_false, true_and, and_true, and_self, or_true, true_or, or_false, false_or] at e73
                refine zs_if_eq (tgt := 83) (pc := 76) C dX9_times_76 (by decide) (fun h76 => ?_) (fun h76 => ?_)
                · skip
                  refine zs_lload_n (pc := 83) C dX9_times_83 rfl ?_
                  refine zs_lload_n (pc := 84) C dX9_times_84 rfl ?_
                  refine zs_lmulF (pc := 85) C dX9_times_85 (fun z85 hz851 hz852 => ?_)
                  exact zs_lret (pc := 86) C hr hlk dX9_times_86 ⟨by repeat (first | exact zsm_rf | assumption | refine zsm_C (by decide) ?_ | refine zsm_I (by decide) ?_ | refine zsm_J ?_ | refine zsm_c (by assumption) (by decide) ?_), (by with_reducible repeat (first | exact RO_rf | assumption | refine RO_0 (by decide) ?_ | refine RO_n 20 (by decide) (by omega) ?_ | refine RO_n 5 (by decide) (by omega) ?_ | refine RO_n 60 (by decide) (by omega) ?_ | refine RO_n 1 (by decide) (by omega) ?_ | refine RO_J (by decide) ?_ | refine RO_c (by assumption) ?_)), trivial⟩
                · skip
                  refine zs_lconst (n := 0) (pc := 79) C dX9_times_79 rfl (by decide) ?_
                  refine zs_goto (tgt := 86) (pc := 80) C dX9_times_80 (by decide) ?_
                  exact zs_lret (pc := 86) C hr hlk dX9_times_86 ⟨by repeat (first | exact zsm_rf | assumption | refine zsm_C (by decide) ?_ | refine zsm_I (by decide) ?_ | refine zsm_J ?_ | refine zsm_c (by assumption) (by decide) ?_), (by with_reducible repeat (first | exact RO_rf | assumption | refine RO_0 (by decide) ?_ | refine RO_n 20 (by decide) (by omega) ?_ | refine RO_n 5 (by decide) (by omega) ?_ | refine RO_n 60 (by decide) (by omega) ?_ | refine RO_n 1 (by decide) (by omega) ?_ | refine RO_J (by decide) ?_ | refine RO_c (by assumption) ?_)), trivial⟩
              · skip
                refine zs_iconst (pc := 64) C dX9_times_64 (by decide) ?_
                refine zs_goto (tgt := 69) (pc := 65) C dX9_times_65 (by decide) ?_
                refine zs_putz (r := 1050) (pc := 69) C dX9_times_69 w_X9_357 f_10_50 rfl (r_1050 0) (by omega) (by omega) ?_
                refine zs_aload_n (pc := 72) C dX9_times_72 rfl ?_
                refine zs_getz (r := 1050) (pc := 73) C dX9_times_73 w_X9_357 f_10_50 rfl (r_1050 0) (fun v73 e73 l73 u73 => ?_)
                try simp only [zuI_1, zuI_2, zuJ_1, zuJ_2, zuJ_3, zuP_1, zuP_2, zuP_3, zuC_1, zuC_2, reduceIte, Nat.reduceEqDiff, false_and, and_false, true_and, and_true, and_self, or_true, true_or, or_false, false_or] at e73
                refine zs_if_eq (tgt := 83) (pc := 76) C dX9_times_76 (by decide) (fun h76 => ?_) (fun h76 => ?_)
                · skip
                  refine zs_lload_n (pc := 83) C dX9_times_83 rfl ?_
                  refine zs_lload_n (pc := 84) C dX9_times_84 rfl ?_
                  refine zs_lmulF (pc := 85) C dX9_times_85 (fun z85 hz851 hz852 => ?_)
                  exact zs_lret (pc := 86) C hr hlk dX9_times_86 ⟨by repeat (first | exact zsm_rf | assumption | refine zsm_C (by decide) ?_ | refine zsm_I (by decide) ?_ | refine zsm_J ?_ | refine zsm_c (by assumption) (by decide) ?_), (by with_reducible repeat (first | exact RO_rf | assumption | refine RO_0 (by decide) ?_ | refine RO_n 20 (by decide) (by omega) ?_ | refine RO_n 5 (by decide) (by omega) ?_ | refine RO_n 60 (by decide) (by omega) ?_ | refine RO_n 1 (by decide) (by omega) ?_ | refine RO_J (by decide) ?_ | refine RO_c (by assumption) ?_)), trivial⟩
                · skip
                  refine zs_lconst (n := 0) (pc := 79) C dX9_times_79 rfl (by decide) ?_
                  refine zs_goto (tgt := 86) (pc := 80) C dX9_times_80 (by decide) ?_
                  exact zs_lret (pc := 86) C hr hlk dX9_times_86 ⟨by repeat (first | exact zsm_rf | assumption | refine zsm_C (by decide) ?_ | refine zsm_I (by decide) ?_ | refine zsm_J ?_ | refine zsm_c (by assumption) (by decide) ?_), (by with_reducible repeat (first | exact RO_rf | assumption | refine RO_0 (by decide) ?_ | refine RO_n 20 (by decide) (by omega) ?_ | refine RO_n 5 (by decide) (by omega) ?_ | refine RO_n 60 (by decide) (by omega) ?_ | refine RO_n 1 (by decide) (by omega) ?_ | refine RO_J (by decide) ?_ | refine RO_c (by assumption) ?_)), trivial⟩
          · skip
            refine zs_iconst (pc := 44) C dX9_times_44 (by decide) ?_
            refine zs_goto (tgt := 49) (pc := 45) C dX9_times_45 (by decide) ?_
            refine zs_istore (pc := 49) C dX9_times_49 (by decide) ?_
            dsimp only [zset, zclr, znone]
            refine zs_aload_n (pc := 51) C dX9_times_51 rfl ?_
            refine zs_aload_n (pc := 52) C dX9_times_52 rfl ?_
            refine zs_getz (r := 1050) (pc := 53) C dX9_times_53 w_X9_357 f_10_50 rfl (r_1050 0) (fun v53 e53 l53 u53 => ?_)
            refine zs_if_ne (tgt := 64) (pc := 56) C dX9_times_56 (by decide) (fun h56 => ?_) (fun h56 => ?_)
            · skip
              refine zs_iconst (pc := 64) C dX9_times_64 (by decide) ?_
              refine zs_goto (tgt := 69) (pc := 65) C dX9_times_65 (by decide) ?_
              refine zs_putz (r := 1050) (pc := 69) C dX9_times_69 w_X9_357 f_10_50 rfl (r_1050 0) (by omega) (by omega) ?_
              refine zs_aload_n (pc := 72) C dX9_times_72 rfl ?_
              refine zs_getz (r := 1050) (pc := 73) C dX9_times_73 w_X9_357 f_10_50 rfl (r_1050 0) (fun v73 e73 l73 u73 => ?_)
              try simp only [zuI_1, zuI_2, zuJ_1, zuJ_2, zuJ_3, zuP_1, zuP_2, zuP_3, zuC_1, zuC_2, reduceIte, Nat.reduceEqDiff, false_and, and_false, true_and, and_true, and_self, or_true, true_or, or_false, false_or] at e73
              refine zs_if_eq (tgt := 83) (pc := 76) C dX9_times_76 (by decide) (fun h76 => ?_) (fun h76 => ?_)
              · skip
                refine zs_lload_n (pc := 83) C dX9_times_83 rfl ?_
                refine zs_lload_n (pc := 84) C dX9_times_84 rfl ?_
                refine zs_lmulF (pc := 85) C dX9_times_85 (fun z85 hz851 hz852 => ?_)
                exact zs_lret (pc := 86) C hr hlk dX9_times_86 ⟨by repeat (first | exact zsm_rf | assumption | refine zsm_C (by decide) ?_ | refine zsm_I (by decide) ?_ | refine zsm_J ?_ | refine zsm_c (by assumption) (by decide) ?_), (by with_reducible repeat (first | exact RO_rf | assumption | refine RO_0 (by decide) ?_ | refine RO_n 20 (by decide) (by omega) ?_ | refine RO_n 5 (by decide) (by omega) ?_ | refine RO_n 60 (by decide) (by omega) ?_ | refine RO_n 1 (by decide) (by omega) ?_ | refine RO_J (by decide) ?_ | refine RO_c (by assumption) ?_)), trivial⟩
              · skip
                refine zs_lconst (n := 0) (pc := 79) C dX9_times_79 rfl (by decide) ?_
                refine zs_goto (tgt := 86) (pc := 80) C dX9_times_80 (by decide) ?_
                exact zs_lret (pc := 86) C hr hlk dX9_times_86 ⟨by repeat (first | exact zsm_rf | assumption | refine zsm_C (by decide) ?_ | refine zsm_I (by decide) ?_ | refine zsm_J ?_ | refine zsm_c (by assumption) (by decide) ?_), (by with_reducible repeat (first | exact RO_rf | assumption | refine RO_0 (by decide) ?_ | refine RO_n 20 (by decide) (by omega) ?_ | refine RO_n 5 (by decide) (by omega) ?_ | refine RO_n 60 (by decide) (by omega) ?_ | refine RO_n 1 (by decide) (by omega) ?_ | refine RO_J (by decide) ?_ | refine RO_c (by assumption) ?_)), trivial⟩
            · skip
              refine zs_iload (pc := 59) C dX9_times_59 rfl ?_
              refine zs_if_eq (tgt := 68) (pc := 61) C dX9_times_61 (by decide) (fun h61 => ?_) (fun h61 => ?_)
              · skip
                refine zs_iconst (pc := 68) C dX9_times_68 (by decide) ?_
                refine zs_putz (r := 1050) (pc := 69) C dX9_times_69 w_X9_357 f_10_50 rfl (r_1050 0) (by omega) (by omega) ?_
                refine zs_aload_n (pc := 72) C dX9_times_72 rfl ?_
                refine zs_getz (r := 1050) (pc := 73) C dX9_times_73 w_X9_357 f_10_50 rfl (r_1050 0) (fun v73 e73 l73 u73 => ?_)
                try simp only [zuI_1, zuI_2, zuJ_1, zuJ_2, zuJ_3, zuP_1, zuP_2, zuP_3, zuC_1, zuC_2, reduceIte, Nat.reduceEqDiff, false_and, and_false, true_and, and_true, and_self, or_true, true_or, or_false, false_or] at e73
                refine zs_if_eq (tgt := 83) (pc := 76) C dX9_times_76 (by decide) (fun h76 => ?_) (fun h76 => ?_)
                · skip
                  refine zs_lload_n (pc := 83) C dX9_times_83 rfl ?_
                  refine zs_lload_n (pc := 84) C dX9_times_84 rfl ?_
                  refine zs_lmulF (pc := 85) C dX9_times_85 (fun z85 hz851 hz852 => ?_)
                  exact zs_lret (pc := 86) C hr hlk dX9_times_86 ⟨by repeat (first | exact zsm_rf | assumption | refine zsm_C (by decide) ?_ | refine zsm_I (by decide) ?_ | refine zsm_J ?_ | refine zsm_c (by assumption) (by decide) ?_), (by with_reducible repeat (first | exact RO_rf | assumption | refine RO_0 (by decide) ?_ | refine RO_n 20 (by decide) (by omega) ?_ | refine RO_n 5 (by decide) (by omega) ?_ | refine RO_n 60 (by decide) (by omega) ?_ | refine RO_n 1 (by decide) (by omega) ?_ | refine RO_J (by decide) ?_ | refine RO_c (by assumption) ?_)), trivial⟩
                · skip
                  refine zs_lconst (n := 0) (pc := 79) C dX9_times_79 rfl (by decide) ?_
                  refine zs_goto (tgt := 86) (pc := 80) C dX9_times_80 (by decide) ?_
                  exact zs_lret (pc := 86) C hr hlk dX9_times_86 ⟨by repeat (first | exact zsm_rf | assumption | refine zsm_C (by decide) ?_ | refine zsm_I (by decide) ?_ | refine zsm_J ?_ | refine zsm_c (by assumption) (by decide) ?_), (by with_reducible repeat (first | exact RO_rf | assumption | refine RO_0 (by decide) ?_ | refine RO_n 20 (by decide) (by omega) ?_ | refine RO_n 5 (by decide) (by omega) ?_ | refine RO_n 60 (by decide) (by omega) ?_ | refine RO_n 1 (by decide) (by omega) ?_ | refine RO_J (by decide) ?_ | refine RO_c (by assumption) ?_)), trivial⟩
              · skip
                refine zs_iconst (pc := 64) C dX9_times_64 (by decide) ?_
                refine zs_goto (tgt := 69) (pc := 65) C dX9_times_65 (by decide) ?_
                refine zs_putz (r := 1050) (pc := 69) C dX9_times_69 w_X9_357 f_10_50 rfl (r_1050 0) (by omega) (by omega) ?_
                refine zs_aload_n (pc := 72) C dX9_times_72 rfl ?_
                refine zs_getz (r := 1050) (pc := 73) C dX9_times_73 w_X9_357 f_10_50 rfl (r_1050 0) (fun v73 e73 l73 u73 => ?_)
                try simp only [zuI_1, zuI_2, zuJ_1, zuJ_2, zuJ_3, zuP_1, zuP_2, zuP_3, zuC_1, zuC_2, reduceIte, Nat.reduceEqDiff, false_and, and_false, true_and, and_true, and_self, or_true, true_or, or_false, false_or] at e73
                refine zs_if_eq (tgt := 83) (pc := 76) C dX9_times_76 (by decide) (fun h76 => ?_) (fun h76 => ?_)
                · skip
                  refine zs_lload_n (pc := 83) C dX9_times_83 rfl ?_
                  refine zs_lload_n (pc := 84) C dX9_times_84 rfl ?_
                  refine zs_lmulF (pc := 85) C dX9_times_85 (fun z85 hz851 hz852 => ?_)
                  exact zs_lret (pc := 86) C hr hlk dX9_times_86 ⟨by repeat (first | exact zsm_rf | assumption | refine zsm_C (by decide) ?_ | refine zsm_I (by decide) ?_ | refine zsm_J ?_ | refine zsm_c (by assumption) (by decide) ?_), (by with_reducible repeat (first | exact RO_rf | assumption | refine RO_0 (by decide) ?_ | refine RO_n 20 (by decide) (by omega) ?_ | refine RO_n 5 (by decide) (by omega) ?_ | refine RO_n 60 (by decide) (by omega) ?_ | refine RO_n 1 (by decide) (by omega) ?_ | refine RO_J (by decide) ?_ | refine RO_c (by assumption) ?_)), trivial⟩
                · skip
                  refine zs_lconst (n := 0) (pc := 79) C dX9_times_79 rfl (by decide) ?_
                  refine zs_goto (tgt := 86) (pc := 80) C dX9_times_80 (by decide) ?_
                  exact zs_lret (pc := 86) C hr hlk dX9_times_86 ⟨by repeat (first | exact zsm_rf | assumption | refine zsm_C (by decide) ?_ | refine zsm_I (by decide) ?_ | refine zsm_J ?_ | refine zsm_c (by assumption) (by decide) ?_), (by with_reducible repeat (first | exact RO_rf | assumption | refine RO_0 (by decide) ?_ | refine RO_n 20 (by decide) (by omega) ?_ | refine RO_n 5 (by decide) (by omega) ?_ | refine RO_n 60 (by decide) (by omega) ?_ | refine RO_n 1 (by decide) (by omega) ?_ | refine RO_J (by decide) ?_ | refine RO_c (by assumption) ?_)), trivial⟩
      · skip
        refine zs_lload_n (pc := 18) C dX9_times_18 rfl ?_
        refine zs_lneg (pc := 19) C dX9_times_19 (fun z19 hz191 hz192 hz193 => ?_)
        refine zs_goto (tgt := 24) (pc := 20) C dX9_times_20 (by decide) ?_
        refine zs_ldc2 (n := 1000000000000) (pc := 24) C dX9_times_24 q_X9_360 (by decide) (by decide) ?_
        refine zs_lload_n (pc := 27) C dX9_times_27 rfl ?_
        refine zs_lconst (n := 0) (pc := 28) C dX9_times_28 rfl (by decide) ?_
        refine zs_lcmp (pc := 29) C dX9_times_29 (fun z29 hz29 => ?_)
        refine zs_if_ge (tgt := 38) (pc := 30) C dX9_times_30 (by decide) (fun h30 => ?_) (fun h30 => ?_)
        · skip
          refine zs_lload_n (pc := 38) C dX9_times_38 rfl ?_
          refine zs_ldiv (pc := 39) C dX9_times_39 (by omega) (fun z39 hz391 hz392 => ?_)
          refine zs_lcmp (pc := 40) C dX9_times_40 (fun z40 hz40 => ?_)
          refine zs_if_le (tgt := 48) (pc := 41) C dX9_times_41 (by decide) (fun h41 => ?_) (fun h41 => ?_)
          · skip
            refine zs_iconst (pc := 48) C dX9_times_48 (by decide) ?_
            refine zs_istore (pc := 49) C dX9_times_49 (by decide) ?_
            dsimp only [zset, zclr, znone]
            refine zs_aload_n (pc := 51) C dX9_times_51 rfl ?_
            refine zs_aload_n (pc := 52) C dX9_times_52 rfl ?_
            refine zs_getz (r := 1050) (pc := 53) C dX9_times_53 w_X9_357 f_10_50 rfl (r_1050 0) (fun v53 e53 l53 u53 => ?_)
            refine zs_if_ne (tgt := 64) (pc := 56) C dX9_times_56 (by decide) (fun h56 => ?_) (fun h56 => ?_)
            · skip
              refine zs_iconst (pc := 64) C dX9_times_64 (by decide) ?_
              refine zs_goto (tgt := 69) (pc := 65) C dX9_times_65 (by decide) ?_
              refine zs_putz (r := 1050) (pc := 69) C dX9_times_69 w_X9_357 f_10_50 rfl (r_1050 0) (by omega) (by omega) ?_
              refine zs_aload_n (pc := 72) C dX9_times_72 rfl ?_
              refine zs_getz (r := 1050) (pc := 73) C dX9_times_73 w_X9_357 f_10_50 rfl (r_1050 0) (fun v73 e73 l73 u73 => ?_)
              try simp only [zuI_1, zuI_2, zuJ_1, zuJ_2, zuJ_3, zuP_1, zuP_2, zuP_3, zuC_1, zuC_2, reduceIte, Nat.reduceEqDiff, false_and, and_false, true_and, and_true, and_self, or_true, true_or, or_false, false_or] at e73
              refine zs_if_eq (tgt := 83) (pc := 76) C dX9_times_76 (by decide) (fun h76 => ?_) (fun h76 => ?_)
              · skip
                refine zs_lload_n (pc := 83) C dX9_times_83 rfl ?_
                refine zs_lload_n (pc := 84) C dX9_times_84 rfl ?_
                refine zs_lmulF (pc := 85) C dX9_times_85 (fun z85 hz851 hz852 => ?_)
                exact zs_lret (pc := 86) C hr hlk dX9_times_86 ⟨by repeat (first | exact zsm_rf | assumption | refine zsm_C (by decide) ?_ | refine zsm_I (by decide) ?_ | refine zsm_J ?_ | refine zsm_c (by assumption) (by decide) ?_), (by with_reducible repeat (first | exact RO_rf | assumption | refine RO_0 (by decide) ?_ | refine RO_n 20 (by decide) (by omega) ?_ | refine RO_n 5 (by decide) (by omega) ?_ | refine RO_n 60 (by decide) (by omega) ?_ | refine RO_n 1 (by decide) (by omega) ?_ | refine RO_J (by decide) ?_ | refine RO_c (by assumption) ?_)), trivial⟩
              · skip
                refine zs_lconst (n := 0) (pc := 79) C dX9_times_79 rfl (by decide) ?_
                refine zs_goto (tgt := 86) (pc := 80) C dX9_times_80 (by decide) ?_
                exact zs_lret (pc := 86) C hr hlk dX9_times_86 ⟨by repeat (first | exact zsm_rf | assumption | refine zsm_C (by decide) ?_ | refine zsm_I (by decide) ?_ | refine zsm_J ?_ | refine zsm_c (by assumption) (by decide) ?_), (by with_reducible repeat (first | exact RO_rf | assumption | refine RO_0 (by decide) ?_ | refine RO_n 20 (by decide) (by omega) ?_ | refine RO_n 5 (by decide) (by omega) ?_ | refine RO_n 60 (by decide) (by omega) ?_ | refine RO_n 1 (by decide) (by omega) ?_ | refine RO_J (by decide) ?_ | refine RO_c (by assumption) ?_)), trivial⟩
            · skip
              refine zs_iload (pc := 59) C dX9_times_59 rfl ?_
              refine zs_if_eq (tgt := 68) (pc := 61) C dX9_times_61 (by decide) (fun h61 => ?_) (fun h61 => ?_)
              · skip
                refine zs_iconst (pc := 68) C dX9_times_68 (by decide) ?_
                refine zs_putz (r := 1050) (pc := 69) C dX9_times_69 w_X9_357 f_10_50 rfl (r_1050 0) (by omega) (by omega) ?_
                refine zs_aload_n (pc := 72) C dX9_times_72 rfl ?_
                refine zs_getz (r := 1050) (pc := 73) C dX9_times_73 w_X9_357 f_10_50 rfl (r_1050 0) (fun v73 e73 l73 u73 => ?_)
                try simp only [zuI_1, zuI_2, zuJ_1, zuJ_2, zuJ_3, zuP_1, zuP_2, zuP_3, zuC_1, zuC_2, reduceIte, Nat.reduceEqDiff, false_and, and_false, true_and, and_true, and_self, or_true, true_or, or_false, false_or] at e73
                refine zs_if_eq (tgt := 83) (pc := 76) C dX9_times_76 (by decide) (fun h76 => ?_) (fun h76 => ?_)
                · skip
                  refine zs_lload_n (pc := 83) C dX9_times_83 rfl ?_
                  refine zs_lload_n (pc := 84) C dX9_times_84 rfl ?_
                  refine zs_lmulF (pc := 85) C dX9_times_85 (fun z85 hz851 hz852 => ?_)
                  exact zs_lret (pc := 86) C hr hlk dX9_times_86 ⟨by repeat (first | exact zsm_rf | assumption | refine zsm_C (by decide) ?_ | refine zsm_I (by decide) ?_ | refine zsm_J ?_ | refine zsm_c (by assumption) (by decide) ?_), (by with_reducible repeat (first | exact RO_rf | assumption | refine RO_0 (by decide) ?_ | refine RO_n 20 (by decide) (by omega) ?_ | refine RO_n 5 (by decide) (by omega) ?_ | refine RO_n 60 (by decide) (by omega) ?_ | refine RO_n 1 (by decide) (by omega) ?_ | refine RO_J (by decide) ?_ | refine RO_c (by assumption) ?_)), trivial⟩
                · skip
                  refine zs_lconst (n := 0) (pc := 79) C dX9_times_79 rfl (by decide) ?_
                  refine zs_goto (tgt := 86) (pc := 80) C dX9_times_80 (by decide) ?_
                  exact zs_lret (pc := 86) C hr hlk dX9_times_86 ⟨by repeat (first | exact zsm_rf | assumption | refine zsm_C (by decide) ?_ | refine zsm_I (by decide) ?_ | refine zsm_J ?_ | refine zsm_c (by assumption) (by decide) ?_), (by with_reducible repeat (first | exact RO_rf | assumption | refine RO_0 (by decide) ?_ | refine RO_n 20 (by decide) (by omega) ?_ | refine RO_n 5 (by decide) (by omega) ?_ | refine RO_n 60 (by decide) (by omega) ?_ | refine RO_n 1 (by decide) (by omega) ?_ | refine RO_J (by decide) ?_ | refine RO_c (by assumption) ?_)), trivial⟩
              · skip
                refine zs_iconst (pc := 64) C dX9_times_64 (by decide) ?_
                refine zs_goto (tgt := 69) (pc := 65) C dX9_times_65 (by decide) ?_
                refine zs_putz (r := 1050) (pc := 69) C dX9_times_69 w_X9_357 f_10_50 rfl (r_1050 0) (by omega) (by omega) ?_
                refine zs_aload_n (pc := 72) C dX9_times_72 rfl ?_
                refine zs_getz (r := 1050) (pc := 73) C dX9_times_73 w_X9_357 f_10_50 rfl (r_1050 0) (fun v73 e73 l73 u73 => ?_)
                try simp only [zuI_1, zuI_2, zuJ_1, zuJ_2, zuJ_3, zuP_1, zuP_2, zuP_3, zuC_1, zuC_2, reduceIte, Nat.reduceEqDiff, false_and, and_false, true_and, and_true, and_self, or_true, true_or, or_false, false_or] at e73
                refine zs_if_eq (tgt := 83) (pc := 76) C dX9_times_76 (by decide) (fun h76 => ?_) (fun h76 => ?_)
                · skip
                  refine zs_lload_n (pc := 83) C dX9_times_83 rfl ?_
                  refine zs_lload_n (pc := 84) C dX9_times_84 rfl ?_
                  refine zs_lmulF (pc := 85) C dX9_times_85 (fun z85 hz851 hz852 => ?_)
                  exact zs_lret (pc := 86) C hr hlk dX9_times_86 ⟨by repeat (first | exact zsm_rf | assumption | refine zsm_C (by decide) ?_ | refine zsm_I (by decide) ?_ | refine zsm_J ?_ | refine zsm_c (by assumption) (by decide) ?_), (by with_reducible repeat (first | exact RO_rf | assumption | refine RO_0 (by decide) ?_ | refine RO_n 20 (by decide) (by omega) ?_ | refine RO_n 5 (by decide) (by omega) ?_ | refine RO_n 60 (by decide) (by omega) ?_ | refine RO_n 1 (by decide) (by omega) ?_ | refine RO_J (by decide) ?_ | refine RO_c (by assumption) ?_)), trivial⟩
                · skip
                  refine zs_lconst (n := 0) (pc := 79) C dX9_times_79 rfl (by decide) ?_
                  refine zs_goto (tgt := 86) (pc := 80) C dX9_times_80 (by decide) ?_
                  exact zs_lret (pc := 86) C hr hlk dX9_times_86 ⟨by repeat (first | exact zsm_rf | assumption | refine zsm_C (by decide) ?_ | refine zsm_I (by decide) ?_ | refine zsm_J ?_ | refine zsm_c (by assumption) (by decide) ?_), (by with_reducible repeat (first | exact RO_rf | assumption | refine RO_0 (by decide) ?_ | refine RO_n 20 (by decide) (by omega) ?_ | refine RO_n 5 (by decide) (by omega) ?_ | refine RO_n 60 (by decide) (by omega) ?_ | refine RO_n 1 (by decide) (by omega) ?_ | refine RO_J (by decide) ?_ | refine RO_c (by assumption) ?_)), trivial⟩
          · skip
            refine zs_iconst (pc := 44) C dX9_times_44 (by decide) ?_
            refine zs_goto (tgt := 49) (pc := 45) C dX9_times_45 (by decide) ?_
            refine zs_istore (pc := 49) C dX9_times_49 (by decide) ?_
            dsimp only [zset, zclr, znone]
            refine zs_aload_n (pc := 51) C dX9_times_51 rfl ?_
            refine zs_aload_n (pc := 52) C dX9_times_52 rfl ?_
            refine zs_getz (r := 1050) (pc := 53) C dX9_times_53 w_X9_357 f_10_50 rfl (r_1050 0) (fun v53 e53 l53 u53 => ?_)
            refine zs_if_ne (tgt := 64) (pc := 56) C dX9_times_56 (by decide) (fun h56 => ?_) (fun h56 => ?_)
            · skip
              refine zs_iconst (pc := 64) C dX9_times_64 (by decide) ?_
              refine zs_goto (tgt := 69) (pc := 65) C dX9_times_65 (by decide) ?_
              refine zs_putz (r := 1050) (pc := 69) C dX9_times_69 w_X9_357 f_10_50 rfl (r_1050 0) (by omega) (by omega) ?_
              refine zs_aload_n (pc := 72) C dX9_times_72 rfl ?_
              refine zs_getz (r := 1050) (pc := 73) C dX9_times_73 w_X9_357 f_10_50 rfl (r_1050 0) (fun v73 e73 l73 u73 => ?_)
              try simp only [zuI_1, zuI_2, zuJ_1, zuJ_2, zuJ_3, zuP_1, zuP_2, zuP_3, zuC_1, zuC_2, reduceIte, Nat.reduceEqDiff, false_and, and_false, true_and, and_true, and_self, or_true, true_or, or_false, false_or] at e73
              refine zs_if_eq (tgt := 83) (pc := 76) C dX9_times_76 (by decide) (fun h76 => ?_) (fun h76 => ?_)
              · skip
                refine zs_lload_n (pc := 83) C dX9_times_83 rfl ?_
                refine zs_lload_n (pc := 84) C dX9_times_84 rfl ?_
                refine zs_lmulF (pc := 85) C dX9_times_85 (fun z85 hz851 hz852 => ?_)
                exact zs_lret (pc := 86) C hr hlk dX9_times_86 ⟨by repeat (first | exact zsm_rf | assumption | refine zsm_C (by decide) ?_ | refine zsm_I (by decide) ?_ | refine zsm_J ?_ | refine zsm_c (by assumption) (by decide) ?_), (by with_reducible repeat (first | exact RO_rf | assumption | refine RO_0 (by decide) ?_ | refine RO_n 20 (by decide) (by omega) ?_ | refine RO_n 5 (by decide) (by omega) ?_ | refine RO_n 60 (by decide) (by omega) ?_ | refine RO_n 1 (by decide) (by omega) ?_ | refine RO_J (by decide) ?_ | refine RO_c (by assumption) ?_)), trivial⟩
              · skip
                refine zs_lconst (n := 0) (pc := 79) C dX9_times_79 rfl (by decide) ?_
                refine zs_goto (tgt := 86) (pc := 80) C dX9_times_80 (by decide) ?_
                exact zs_lret (pc := 86) C hr hlk dX9_times_86 ⟨by repeat (first | exact zsm_rf | assumption | refine zsm_C (by decide) ?_ | refine zsm_I (by decide) ?_ | refine zsm_J ?_ | refine zsm_c (by assumption) (by decide) ?_), (by with_reducible repeat (first | exact RO_rf | assumption | refine RO_0 (by decide) ?_ | refine RO_n 20 (by decide) (by omega) ?_ | refine RO_n 5 (by decide) (by omega) ?_ | refine RO_n 60 (by decide) (by omega) ?_ | refine RO_n 1 (by decide) (by omega) ?_ | refine RO_J (by decide) ?_ | refine RO_c (by assumption) ?_)), trivial⟩
            · skip
              refine zs_iload (pc := 59) C dX9_times_59 rfl ?_
              refine zs_if_eq (tgt := 68) (pc := 61) C dX9_times_61 (by decide) (fun h61 => ?_) (fun h61 => ?_)
              · skip
                refine zs_iconst (pc := 68) C dX9_times_68 (by decide) ?_
                refine zs_putz (r := 1050) (pc := 69) C dX9_times_69 w_X9_357 f_10_50 rfl (r_1050 0) (by omega) (by omega) ?_
                refine zs_aload_n (pc := 72) C dX9_times_72 rfl ?_
                refine zs_getz (r := 1050) (pc := 73) C dX9_times_73 w_X9_357 f_10_50 rfl (r_1050 0) (fun v73 e73 l73 u73 => ?_)
                try simp only [zuI_1, zuI_2, zuJ_1, zuJ_2, zuJ_3, zuP_1, zuP_2, zuP_3, zuC_1, zuC_2, reduceIte, Nat.reduceEqDiff, false_and, and_false, true_and, and_true, and_self, or_true, true_or, or_false, false_or] at e73
                refine zs_if_eq (tgt := 83) (pc := 76) C dX9_times_76 (by decide) (fun h76 => ?_) (fun h76 => ?_)
                · skip
                  refine zs_lload_n (pc := 83) C dX9_times_83 rfl ?_
                  refine zs_lload_n (pc := 84) C dX9_times_84 rfl ?_
                  refine zs_lmulF (pc := 85) C dX9_times_85 (fun z85 hz851 hz852 => ?_)
                  exact zs_lret (pc := 86) C hr hlk dX9_times_86 ⟨by repeat (first | exact zsm_rf | assumption | refine zsm_C (by decide) ?_ | refine zsm_I (by decide) ?_ | refine zsm_J ?_ | refine zsm_c (by assumption) (by decide) ?_), (by with_reducible repeat (first | exact RO_rf | assumption | refine RO_0 (by decide) ?_ | refine RO_n 20 (by decide) (by omega) ?_ | refine RO_n 5 (by decide) (by omega) ?_ | refine RO_n 60 (by decide) (by omega) ?_ | refine RO_n 1 (by decide) (by omega) ?_ | refine RO_J (by decide) ?_ | refine RO_c (by assumption) ?_)), trivial⟩
                · skip
                  refine zs_lconst (n := 0) (pc := 79) C dX9_times_79 rfl (by decide) ?_
                  refine zs_goto (tgt := 86) (pc := 80) C dX9_times_80 (by decide) ?_
                  exact zs_lret (pc := 86) C hr hlk dX9_times_86 ⟨by repeat (first | exact zsm_rf | assumption | refine zsm_C (by decide) ?_ | refine zsm_I (by decide) ?_ | refine zsm_J ?_ | refine zsm_c (by assumption) (by decide) ?_), (by with_reducible repeat (first | exact RO_rf | assumption | refine RO_0 (by decide) ?_ | refine RO_n 20 (by decide) (by omega) ?_ | refine RO_n 5 (by decide) (by omega) ?_ | refine RO_n 60 (by decide) (by omega) ?_ | refine RO_n 1 (by decide) (by omega) ?_ | refine RO_J (by decide) ?_ | refine RO_c (by assumption) ?_)), trivial⟩
              · skip
                refine zs_iconst (pc := 64) C dX9_times_64 (by decide) ?_
                refine zs_goto (tgt := 69) (pc := 65) C dX9_times_65 (by decide) ?_
                refine zs_putz (r := 1050) (pc := 69) C dX9_times_69 w_X9_357 f_10_50 rfl (r_1050 0) (by omega) (by omega) ?_
                refine zs_aload_n (pc := 72) C dX9_times_72 rfl ?_
                refine zs_getz (r := 1050) (pc := 73) C dX9_times_73 w_X9_357 f_10_50 rfl (r_1050 0) (fun v73 e73 l73 u73 => ?_)
                try simp only [zuI_1, zuI_2, zuJ_1, zuJ_2, zuJ_3, zuP_1, zuP_2, zuP_3, zuC_1, zuC_2, reduceIte, Nat.reduceEqDiff, false_and, and_false, true_and, and_true, and_self, or_true, true_or, or_false, false_or] at e73
                refine zs_if_eq (tgt := 83) (pc := 76) C dX9_times_76 (by decide) (fun h76 => ?_) (fun h76 => ?_)
                · skip
                  refine zs_lload_n (pc := 83) C dX9_times_83 rfl ?_
                  refine zs_lload_n (pc := 84) C dX9_times_84 rfl ?_
                  refine zs_lmulF (pc := 85) C dX9_times_85 (fun z85 hz851 hz852 => ?_)
                  exact zs_lret (pc := 86) C hr hlk dX9_times_86 ⟨by repeat (first | exact zsm_rf | assumption | refine zsm_C (by decide) ?_ | refine zsm_I (by decide) ?_ | refine zsm_J ?_ | refine zsm_c (by assumption) (by decide) ?_), (by with_reducible repeat (first | exact RO_rf | assumption | refine RO_0 (by decide) ?_ | refine RO_n 20 (by decide) (by omega) ?_ | refine RO_n 5 (by decide) (by omega) ?_ | refine RO_n 60 (by decide) (by omega) ?_ | refine RO_n 1 (by decide) (by omega) ?_ | refine RO_J (by decide) ?_ | refine RO_c (by assumption) ?_)), trivial⟩
                · skip
                  refine zs_lconst (n := 0) (pc := 79) C dX9_times_79 rfl (by decide) ?_
                  refine zs_goto (tgt := 86) (pc := 80) C dX9_times_80 (by decide) ?_
                  exact zs_lret (pc := 86) C hr hlk dX9_times_86 ⟨by repeat (first | exact zsm_rf | assumption | refine zsm_C (by decide) ?_ | refine zsm_I (by decide) ?_ | refine zsm_J ?_ | refine zsm_c (by assumption) (by decide) ?_), (by with_reducible repeat (first | exact RO_rf | assumption | refine RO_0 (by decide) ?_ | refine RO_n 20 (by decide) (by omega) ?_ | refine RO_n 5 (by decide) (by omega) ?_ | refine RO_n 60 (by decide) (by omega) ?_ | refine RO_n 1 (by decide) (by omega) ?_ | refine RO_J (by decide) ?_ | refine RO_c (by assumption) ?_)), trivial⟩
        · skip
          refine zs_lload_n (pc := 33) C dX9_times_33 rfl ?_
          refine zs_lneg (pc := 34) C dX9_times_34 (fun z34 hz341 hz342 hz343 => ?_)
          refine zs_goto (tgt := 39) (pc := 35) C dX9_times_35 (by decide) ?_
          refine zs_ldiv (pc := 39) C dX9_times_39 (by omega) (fun z39 hz391 hz392 => ?_)
          refine zs_lcmp (pc := 40) C dX9_times_40 (fun z40 hz40 => ?_)
          refine zs_if_le (tgt := 48) (pc := 41) C dX9_times_41 (by decide) (fun h41 => ?_) (fun h41 => ?_)
          · skip
            refine zs_iconst (pc := 48) C dX9_times_48 (by decide) ?_
            refine zs_istore (pc := 49) C dX9_times_49 (by decide) ?_
            dsimp only [zset, zclr, znone]
            refine zs_aload_n (pc := 51) C dX9_times_51 rfl ?_
            refine zs_aload_n (pc := 52) C dX9_times_52 rfl ?_
            refine zs_getz (r := 1050) (pc := 53) C dX9_times_53 w_X9_357 f_10_50 rfl (r_1050 0) (fun v53 e53 l53 u53 => ?_)
            refine zs_if_ne (tgt := 64) (pc := 56) C dX9_times_56 (by decide) (fun h56 => ?_) (fun h56 => ?_)
            · skip
              refine zs_iconst (pc := 64) C dX9_times_64 (by decide) ?_
              refine zs_goto (tgt := 69) (pc := 65) C dX9_times_65 (by decide) ?_
              refine zs_putz (r := 1050) (pc := 69) C dX9_times_69 w_X9_357 f_10_50 rfl (r_1050 0) (by omega) (by omega) ?_
              refine zs_aload_n (pc := 72) C dX9_times_72 rfl ?_
              refine zs_getz (r := 1050) (pc := 73) C dX9_times_73 w_X9_357 f_10_50 rfl (r_1050 0) (fun v73 e73 l73 u73 => ?_)
              try simp only [zuI_1, zuI_2, zuJ_1, zuJ_2, zuJ_3, zuP_1, zuP_2, zuP_3, zuC_1, zuC_2, reduceIte, Nat.reduceEqDiff, false_and, and_false, true_and, and_true, and_self, or_true, true_or, or_false, false_or] at e73
              refine zs_if_eq (tgt := 83) (pc := 76) C dX9_times_76 (by decide) (fun h76 => ?_) (fun h76 => ?_)
              · skip
                refine zs_lload_n (pc := 83) C dX9_times_83 rfl ?_
                refine zs_lload_n (pc := 84) C dX9_times_84 rfl ?_
                refine zs_lmulF (pc := 85) C dX9_times_85 (fun z85 hz851 hz852 => ?_)
                exact zs_lret (pc := 86) C hr hlk dX9_times_86 ⟨by repeat (first | exact zsm_rf | assumption | refine zsm_C (by decide) ?_ | refine zsm_I (by decide) ?_ | refine zsm_J ?_ | refine zsm_c (by assumption) (by decide) ?_), (by with_reducible repeat (first | exact RO_rf | assumption | refine RO_0 (by decide) ?_ | refine RO_n 20 (by decide) (by omega) ?_ | refine RO_n 5 (by decide) (by omega) ?_ | refine RO_n 60 (by decide) (by omega) ?_ | refine RO_n 1 (by decide) (by omega) ?_ | refine RO_J (by decide) ?_ | refine RO_c (by assumption) ?_)), trivial⟩
              · skip
                refine zs_lconst (n := 0) (pc := 79) C dX9_times_79 rfl (by decide) ?_
                refine zs_goto (tgt := 86) (pc := 80) C dX9_times_80 (by decide) ?_
                exact zs_lret (pc := 86) C hr hlk dX9_times_86 ⟨by repeat (first | exact zsm_rf | assumption | refine zsm_C (by decide) ?_ | refine zsm_I (by decide) ?_ | refine zsm_J ?_ | refine zsm_c (by assumption) (by decide) ?_), (by with_reducible repeat (first | exact RO_rf | assumption | refine RO_0 (by decide) ?_ | refine RO_n 20 (by decide) (by omega) ?_ | refine RO_n 5 (by decide) (by omega) ?_ | refine RO_n 60 (by decide) (by omega) ?_ | refine RO_n 1 (by decide) (by omega) ?_ | refine RO_J (by decide) ?_ | refine RO_c (by assumption) ?_)), trivial⟩
            · skip
              refine zs_iload (pc := 59) C dX9_times_59 rfl ?_
              refine zs_if_eq (tgt := 68) (pc := 61) C dX9_times_61 (by decide) (fun h61 => ?_) (fun h61 => ?_)
              · skip
                refine zs_iconst (pc := 68) C dX9_times_68 (by decide) ?_
                refine zs_putz (r := 1050) (pc := 69) C dX9_times_69 w_X9_357 f_10_50 rfl (r_1050 0) (by omega) (by omega) ?_
                refine zs_aload_n (pc := 72) C dX9_times_72 rfl ?_
                refine zs_getz (r := 1050) (pc := 73) C dX9_times_73 w_X9_357 f_10_50 rfl (r_1050 0) (fun v73 e73 l73 u73 => ?_)
                try simp only [zuI_1, zuI_2, zuJ_1, zuJ_2, zuJ_3, zuP_1, zuP_2, zuP_3, zuC_1, zuC_2, reduceIte, Nat.reduceEqDiff, false_and, and_false, true_and, and_true, and_self, or_true, true_or, or_false, false_or] at e73
                refine zs_if_eq (tgt := 83) (pc := 76) C dX9_times_76 (by decide) (fun h76 => ?_) (fun h76 => ?_)
                · skip
                  refine zs_lload_n (pc := 83) C dX9_times_83 rfl ?_
                  refine zs_lload_n (pc := 84) C dX9_times_84 rfl ?_
                  refine zs_lmulF (pc := 85) C dX9_times_85 (fun z85 hz851 hz852 => ?_)
                  exact zs_lret (pc := 86) C hr hlk dX9_times_86 ⟨by repeat (first | exact zsm_rf | assumption | refine zsm_C (by decide) ?_ | refine zsm_I (by decide) ?_ | refine zsm_J ?_ | refine zsm_c (by assumption) (by decide) ?_), (by with_reducible repeat (first | exact RO_rf | assumption | refine RO_0 (by decide) ?_ | refine RO_n 20 (by decide) (by omega) ?_ | refine RO_n 5 (by decide) (by omega) ?_ | refine RO_n 60 (by decide) (by omega) ?_ | refine RO_n 1 (by decide) (by omega) ?_ | refine RO_J (by decide) ?_ | refine RO_c (by assumption) ?_)), trivial⟩
                · skip
                  refine zs_lconst (n := 0) (pc := 79) C dX9_times_79 rfl (by decide) ?_
                  refine zs_goto (tgt := 86) (pc := 80) C dX9_times_80 (by decide) ?_
                  exact zs_lret (pc := 86) C hr hlk dX9_times_86 ⟨by repeat (first | exact zsm_rf | assumption | refine zsm_C (by decide) ?_ | refine zsm_I (by decide) ?_ | refine zsm_J ?_ | refine zsm_c (by assumption) (by decide) ?_), (by with_reducible repeat (first | exact RO_rf | assumption | refine RO_0 (by decide) ?_ | refine RO_n 20 (by decide) (by omega) ?_ | refine RO_n 5 (by decide) (by omega) ?_ | refine RO_n 60 (by decide) (by omega) ?_ | refine RO_n 1 (by decide) (by omega) ?_ | refine RO_J (by decide) ?_ | refine RO_c (by assumption) ?_)), trivial⟩
              · skip
                refine zs_iconst (pc := 64) C dX9_times_64 (by decide) ?_
                refine zs_goto (tgt := 69) (pc := 65) C dX9_times_65 (by decide) ?_
                refine zs_putz (r := 1050) (pc := 69) C dX9_times_69 w_X9_357 f_10_50 rfl (r_1050 0) (by omega) (by omega) ?_
                refine zs_aload_n (pc := 72) C dX9_times_72 rfl ?_
                refine zs_getz (r := 1050) (pc := 73) C dX9_times_73 w_X9_357 f_10_50 rfl (r_1050 0) (fun v73 e73 l73 u73 => ?_)
                try simp only [zuI_1, zuI_2, zuJ_1, zuJ_2, zuJ_3, zuP_1, zuP_2, zuP_3, zuC_1, zuC_2, reduceIte, Nat.reduceEqDiff, false_and, and_false, true_and, and_true, and_self, or_true, true_or, or_false, false_or] at e73
                refine zs_if_eq (tgt := 83) (pc := 76) C dX9_times_76 (by decide) (fun h76 => ?_) (fun h76 => ?_)
                · skip
                  refine zs_lload_n (pc := 83) C dX9_times_83 rfl ?_
                  refine zs_lload_n (pc := 84) C dX9_times_84 rfl ?_
                  refine zs_lmulF (pc := 85) C dX9_times_85 (fun z85 hz851 hz852 => ?_)
                  exact zs_lret (pc := 86) C hr hlk dX9_times_86 ⟨by repeat (first | exact zsm_rf | assumption | refine zsm_C (by decide) ?_ | refine zsm_I (by decide) ?_ | refine zsm_J ?_ | refine zsm_c (by assumption) (by decide) ?_), (by with_reducible repeat (first | exact RO_rf | assumption | refine RO_0 (by decide) ?_ | refine RO_n 20 (by decide) (by omega) ?_ | refine RO_n 5 (by decide) (by omega) ?_ | refine RO_n 60 (by decide) (by omega) ?_ | refine RO_n 1 (by decide) (by omega) ?_ | refine RO_J (by decide) ?_ | refine RO_c (by assumption) ?_)), trivial⟩
                · skip
                  refine zs_lconst (n := 0) (pc := 79) C dX9_times_79 rfl (by decide) ?_
                  refine zs_goto (tgt := 86) (pc := 80) C dX9_times_80 (by decide) ?_
                  exact zs_lret (pc := 86) C hr hlk dX9_times_86 ⟨by repeat (first | exact zsm_rf | assumption | refine zsm_C (by decide) ?_ | refine zsm_I (by decide) ?_ | refine zsm_J ?_ | refine zsm_c (by assumption) (by decide) ?_), (by with_reducible repeat (first | exact RO_rf | assumption | refine RO_0 (by decide) ?_ | refine RO_n 20 (by decide) (by omega) ?_ | refine RO_n 5 (by decide) (by omega) ?_ | refine RO_n 60 (by decide) (by omega) ?_ | refine RO_n 1 (by decide) (by omega) ?_ | refine RO_J (by decide) ?_ | refine RO_c (by assumption) ?_)), trivial⟩
          · skip
            refine zs_iconst (pc := 44) C dX9_times_44 (by decide) ?_
            refine zs_goto (tgt := 49) (pc := 45) C dX9_times_45 (by decide) ?_
            refine zs_istore (pc := 49) C dX9_times_49 (by decide) ?_
            dsimp only [zset, zclr, znone]
            refine zs_aload_n (pc := 51) C dX9_times_51 rfl ?_
            refine zs_aload_n (pc := 52) C dX9_times_52 rfl ?_
            refine zs_getz (r := 1050) (pc := 53) C dX9_times_53 w_X9_357 f_10_50 rfl (r_1050 0) (fun v53 e53 l53 u53 => ?_)
            refine zs_if_ne (tgt := 64) (pc := 56) C dX9_times_56 (by decide) (fun h56 => ?_) (fun h56 => ?_)
            · skip
              refine zs_iconst (pc := 64) C dX9_times_64 (by decide) ?_
              refine zs_goto (tgt := 69) (pc := 65) C dX9_times_65 (by decide) ?_
              refine zs_putz (r := 1050) (pc := 69) C dX9_times_69 w_X9_357 f_10_50 rfl (r_1050 0) (by omega) (by omega) ?_
              refine zs_aload_n (pc := 72) C dX9_times_72 rfl ?_
              refine zs_getz (r := 1050) (pc := 73) C dX9_times_73 w_X9_357 f_10_50 rfl (r_1050 0) (fun v73 e73 l73 u73 => ?_)
              try simp only [zuI_1, zuI_2, zuJ_1, zuJ_2, zuJ_3, zuP_1, zuP_2, zuP_3, zuC_1, zuC_2, reduceIte, Nat.reduceEqDiff, false_and, and_false, true_and, and_true, and_self, or_true, true_or, or_false, false_or] at e73
              refine zs_if_eq (tgt := 83) (pc := 76) C dX9_times_76 (by decide) (fun h76 => ?_) (fun h76 => ?_)
              · skip
                refine zs_lload_n (pc := 83) C dX9_times_83 rfl ?_
                refine zs_lload_n (pc := 84) C dX9_times_84 rfl ?_
                refine zs_lmulF (pc := 85) C dX9_times_85 (fun z85 hz851 hz852 => ?_)
                exact zs_lret (pc := 86) C hr hlk dX9_times_86 ⟨by repeat (first | exact zsm_rf | assumption | refine zsm_C (by decide) ?_ | refine zsm_I (by decide) ?_ | refine zsm_J ?_ | refine zsm_c (by assumption) (by decide) ?_), (by with_reducible repeat (first | exact RO_rf | assumption | refine RO_0 (by decide) ?_ | refine RO_n 20 (by decide) (by omega) ?_ | refine RO_n 5 (by decide) (by omega) ?_ | refine RO_n 60 (by decide) (by omega) ?_ | refine RO_n 1 (by decide) (by omega) ?_ | refine RO_J (by decide) ?_ | refine RO_c (by assumption) ?_)), trivial⟩
              · skip
                refine zs_lconst (n := 0) (pc := 79) C dX9_times_79 rfl (by decide) ?_
                refine zs_goto (tgt := 86) (pc := 80) C dX9_times_80 (by decide) ?_
                exact zs_lret (pc := 86) C hr hlk dX9_times_86 ⟨by repeat (first | exact zsm_rf | assumption | refine zsm_C (by decide) ?_ | refine zsm_I (by decide) ?_ | refine zsm_J ?_ | refine zsm_c (by assumption) (by decide) ?_), (by with_reducible repeat (first | exact RO_rf | assumption | refine RO_0 (by decide) ?_ | refine RO_n 20 (by decide) (by omega) ?_ | refine RO_n 5 (by decide) (by omega) ?_ | refine RO_n 60 (by decide) (by omega) ?_ | refine RO_n 1 (by decide) (by omega) ?_ | refine RO_J (by decide) ?_ | refine RO_c (by assumption) ?_)), trivial⟩
            · skip
              refine zs_iload (pc := 59) C dX9_times_59 rfl ?_
              refine zs_if_eq (tgt := 68) (pc := 61) C dX9_times_61 (by decide) (fun h61 => ?_) (fun h61 => ?_)
              · skip
                refine zs_iconst (pc := 68) C dX9_times_68 (by decide) ?_
                refine zs_putz (r := 1050) (pc := 69) C dX9_times_69 w_X9_357 f_10_50 rfl (r_1050 0) (by omega) (by omega) ?_
                refine zs_aload_n (pc := 72) C dX9_times_72 rfl ?_
                refine zs_getz (r := 1050) (pc := 73) C dX9_times_73 w_X9_357 f_10_50 rfl (r_1050 0) (fun v73 e73 l73 u73 => ?_)
                try simp only [zuI_1, zuI_2, zuJ_1, zuJ_2, zuJ_3, zuP_1, zuP_2, zuP_3, zuC_1, zuC_2, reduceIte, Nat.reduceEqDiff, false_and, and_false, true_and, and_true, and_self, or_true, true_or, or_false, false_or] at e73
                refine zs_if_eq (tgt := 83) (pc := 76) C dX9_times_76 (by decide) (fun h76 => ?_) (fun h76 => ?_)
                · skip
                  refine zs_lload_n (pc := 83) C dX9_times_83 rfl ?_
                  refine zs_lload_n (pc := 84) C dX9_times_84 rfl ?_
                  refine zs_lmulF (pc := 85) C dX9_times_85 (fun z85 hz851 hz852 => ?_)
                  exact zs_lret (pc := 86) C hr hlk dX9_times_86 ⟨by repeat (first | exact zsm_rf | assumption | refine zsm_C (by decide) ?_ | refine zsm_I (by decide) ?_ | refine zsm_J ?_ | refine zsm_c (by assumption) (by decide) ?_), (by with_reducible repeat (first | exact RO_rf | assumption | refine RO_0 (by decide) ?_ | refine RO_n 20 (by decide) (by omega) ?_ | refine RO_n 5 (by decide) (by omega) ?_ | refine RO_n 60 (by decide) (by omega) ?_ | refine RO_n 1 (by decide) (by omega) ?_ | refine RO_J (by decide) ?_ | refine RO_c (by assumption) ?_)), trivial⟩
                · skip
                  refine zs_lconst (n := 0) (pc := 79) C dX9_times_79 rfl (by decide) ?_
                  refine zs_goto (tgt := 86) (pc := 80) C dX9_times_80 (by decide) ?_
                  exact zs_lret (pc := 86) C hr hlk dX9_times_86 ⟨by repeat (first | exact zsm_rf | assumption | refine zsm_C (by decide) ?_ | refine zsm_I (by decide) ?_ | refine zsm_J ?_ | refine zsm_c (by assumption) (by decide) ?_), (by with_reducible repeat (first | exact RO_rf | assumption | refine RO_0 (by decide) ?_ | refine RO_n 20 (by decide) (by omega) ?_ | refine RO_n 5 (by decide) (by omega) ?_ | refine RO_n 60 (by decide) (by omega) ?_ | refine RO_n 1 (by decide) (by omega) ?_ | refine RO_J (by decide) ?_ | refine RO_c (by assumption) ?_)), trivial⟩
              · skip
                refine zs_iconst (pc := 64) C dX9_times_64 (by decide) ?_
                refine zs_goto (tgt := 69) (pc := 65) C dX9_times_65 (by decide) ?_
                refine zs_putz (r := 1050) (pc := 69) C dX9_times_69 w_X9_357 f_10_50 rfl (r_1050 0) (by omega) (by omega) ?_
                refine zs_aload_n (pc := 72) C dX9_times_72 rfl ?_
                refine zs_getz (r := 1050) (pc := 73) C dX9_times_73 w_X9_357 f_10_50 rfl (r_1050 0) (fun v73 e73 l73 u73 => ?_)
                try simp only [zuI_1, zuI_2, zuJ_1, zuJ_2, zuJ_3, zuP_1, zuP_2, zuP_3, zuC_1, zuC_2, reduceIte, Nat.reduceEqDiff, false_and, and_false, true_and, and_true, and_self, or_true, true_or, or_false, false_or] at e73
                refine zs_if_eq (tgt := 83) (pc := 76) C dX9_times_76 (by decide) (fun h76 => ?_) (fun h76 => ?_)
                · skip
                  refine zs_lload_n (pc := 83) C dX9_times_83 rfl ?_
                  refine zs_lload_n (pc := 84) C dX9_times_84 rfl ?_
                  refine zs_lmulF (pc := 85) C dX9_times_85 (fun z85 hz851 hz852 => ?_)
                  exact zs_lret (pc := 86) C hr hlk dX9_times_86 ⟨by repeat (first | exact zsm_rf | assumption | refine zsm_C (by decide) ?_ | refine zsm_I (by decide) ?_ | refine zsm_J ?_ | refine zsm_c (by assumption) (by decide) ?_), (by with_reducible repeat (first | exact RO_rf | assumption | refine RO_0 (by decide) ?_ | refine RO_n 20 (by decide) (by omega) ?_ | refine RO_n 5 (by decide) (by omega) ?_ | refine RO_n 60 (by decide) (by omega) ?_ | refine RO_n 1 (by decide) (by omega) ?_ | refine RO_J (by decide) ?_ | refine RO_c (by assumption) ?_)), trivial⟩
                · skip
                  refine zs_lconst (n := 0) (pc := 79) C dX9_times_79 rfl (by decide) ?_
                  refine zs_goto (tgt := 86) (pc := 80) C dX9_times_80 (by decide) ?_
                  exact zs_lret (pc := 86) C hr hlk dX9_times_86 ⟨by repeat (first | exact zsm_rf | assumption | refine zsm_C (by decide) ?_ | refine zsm_I (by decide) ?_ | refine zsm_J ?_ | refine zsm_c (by assumption) (by decide) ?_), (by with_reducible repeat (first | exact RO_rf | assumption | refine RO_0 (by decide) ?_ | refine RO_n 20 (by decide) (by omega) ?_ | refine RO_n 5 (by decide) (by omega) ?_ | refine RO_n 60 (by decide) (by omega) ?_ | refine RO_n 1 (by decide) (by omega) ?_ | refine RO_J (by decide) ?_ | refine RO_c (by assumption) ?_)), trivial⟩

set_option maxHeartbeats 4000000 in
set_option maxRecDepth 100000 in
theorem c_X9_valueOfO {l : Launch} {Γ : zΓ} {G : zH} {w : Nat} {k : Int} (hX : zXs Γ) (hM : MI Γ w G)(hk : 0 ≤ k ∧ k < 64) : zMet l Γ yX9_valueOf cX9_valueOf 6 (some .long) 1 [zr 10 w, zi k] G (zpj (fun x G' => zsm [1050] G G' ∧ RO G G' ∧ True)) := by
  have hK := MI_k hM k (by omega) (by omega)
  refine zMet_of RX9 hX (by decide) rfl (Nat.le_of_ble_eq_true rfl) ?_
  intro p e s m args below meth c C hr hlk
  show Z p l e (zrm 1) s m args below meth c Γ 6 0 0 (MQ below (zQc Γ (zpj (fun x G' => zsm [1050] G G' ∧ RO G G' ∧ True))) args s 0 0 (zA Γ)) 0 [some (zr 10 w), some (zi k), none, none, none, none] [] G
  refine zs_loc 1 rfl (fun ha1 hb1 => ?_)
  refine zs_aload_n (pc := 0) C dX9_valueOf_0 rfl ?_
  refine zs_getf (pc := 1) C dX9_valueOf_1 w_X9_66 f_10_37 (by decide) ?_
  refine zs_iload_n (pc := 4) C dX9_valueOf_4 rfl ?_
  refine zs_iald (r := 2074) (pc := 5) C dX9_valueOf_5 a_74 (by decide) (by omega) rfl (r_2074 _) (fun v5 e5 l5 u5 => ?_)
  refine zs_if_ne (tgt := 17) (pc := 6) C dX9_valueOf_6 (by decide) (fun h6 => ?_) (fun h6 => ?_)
  · skip
    refine zs_aload_n (pc := 17) C dX9_valueOf_17 rfl ?_
    refine zs_getf (pc := 18) C dX9_valueOf_18 w_X9_66 f_10_37 (by decide) ?_
    refine zs_iload_n (pc := 21) C dX9_valueOf_21 rfl ?_
    refine zs_iald (r := 2074) (pc := 22) C dX9_valueOf_22 a_74 (by decide) (by omega) rfl (r_2074 _) (fun v22 e22 l22 u22 => ?_)
    refine zs_iconst (pc := 23) C dX9_valueOf_23 (by decide) ?_
    refine zs_icmp_ne (tgt := 39) (pc := 24) C dX9_valueOf_24 (by decide) (fun h24 => ?_) (fun h24 => ?_)
    · skip
      refine zs_aload_n (pc := 39) C dX9_valueOf_39 rfl ?_
      refine zs_getf (pc := 40) C dX9_valueOf_40 w_X9_85 f_10_49 (by decide) ?_
      refine zs_aload_n (pc := 43) C dX9_valueOf_43 rfl ?_
      refine zs_getf (pc := 44) C dX9_valueOf_44 w_X9_69 f_10_38 (by decide) ?_
      refine zs_iload_n (pc := 47) C dX9_valueOf_47 rfl ?_
      refine zs_iald (r := 2075) (pc := 48) C dX9_valueOf_48 a_75 (by decide) (by omega) rfl (r_2075 _) (fun v48 e48 l48 u48 => ?_)
      refine zs_lald (r := 2080) (pc := 49) C dX9_valueOf_49 a_80 (by decide) (by omega) rfl (fun v49 e49 l49 u49 => ?_)
      refine zs_lstore_n (pc := 50) C dX9_valueOf_50 (by decide) ?_
      dsimp only [zset, zclr, znone]
      refine zs_aload_n (pc := 51) C dX9_valueOf_51 rfl ?_
      refine zs_getf (pc := 52) C dX9_valueOf_52 w_X9_66 f_10_37 (by decide) ?_
      refine zs_iload_n (pc := 55) C dX9_valueOf_55 rfl ?_
      refine zs_iald (r := 2074) (pc := 56) C dX9_valueOf_56 a_74 (by decide) (by omega) rfl (r_2074 _) (fun v56 e56 l56 u56 => ?_)
      refine zs_iconst (pc := 57) C dX9_valueOf_57 (by decide) ?_
      refine zs_icmp_ne (tgt := 73) (pc := 58) C dX9_valueOf_58 (by decide) (fun h58 => ?_) (fun h58 => ?_)
      · skip
        refine zs_aload_n (pc := 73) C dX9_valueOf_73 rfl ?_
        refine zs_getf (pc := 74) C dX9_valueOf_74 w_X9_85 f_10_49 (by decide) ?_
        refine zs_aload_n (pc := 77) C dX9_valueOf_77 rfl ?_
        refine zs_getf (pc := 78) C dX9_valueOf_78 w_X9_72 f_10_39 (by decide) ?_
        refine zs_iload_n (pc := 81) C dX9_valueOf_81 rfl ?_
        refine zs_iald (r := 2076) (pc := 82) C dX9_valueOf_82 a_76 (by decide) (by omega) rfl (r_2076 _) (fun v82 e82 l82 u82 => ?_)
        refine zs_lald (r := 2080) (pc := 83) C dX9_valueOf_83 a_80 (by decide) (by omega) rfl (fun v83 e83 l83 u83 => ?_)
        refine zs_lstore (pc := 84) C dX9_valueOf_84 (by decide) ?_
        dsimp only [zset, zclr, znone]
        refine zs_aload_n (pc := 86) C dX9_valueOf_86 rfl ?_
        refine zs_getf (pc := 87) C dX9_valueOf_87 w_X9_66 f_10_37 (by decide) ?_
        refine zs_iload_n (pc := 90) C dX9_valueOf_90 rfl ?_
        refine zs_iald (r := 2074) (pc := 91) C dX9_valueOf_91 a_74 (by decide) (by omega) rfl (r_2074 _) (fun v91 e91 l91 u91 => ?_)
        refine zs_name (fun y92 ey92 => ?_)
        rcases (show y92 = 3 ∨ y92 = 4 ∨ y92 = 5 ∨ y92 = 6 ∨ y92 = 7 ∨ y92 = 8 ∨ y92 = 9 ∨ y92 = 10 ∨ y92 = 11 ∨ y92 = 12 ∨ y92 = 13 ∨ y92 = 14 ∨ (y92 < 3 ∨ 14 < y92) by omega) with h92 | h92 | h92 | h92 | h92 | h92 | h92 | h92 | h92 | h92 | h92 | h92 | h92
        · skip
          refine zs_tabIn (pc := 92) (tgt := 156) C 3 dX9_valueOf_92 h92 (by decide) rfl (by decide) ?_
          refine zs_lload_n (pc := 156) C dX9_valueOf_156 rfl ?_
          refine zs_lconst (n := 0) (pc := 157) C dX9_valueOf_157 rfl (by decide) ?_
          refine zs_lcmp (pc := 158) C dX9_valueOf_158 (fun z158 hz158 => ?_)
          refine zs_if_eq (tgt := 173) (pc := 159) C dX9_valueOf_159 (by decide) (fun h159 => ?_) (fun h159 => ?_)
          · skip
            refine zs_lconst (n := 0) (pc := 173) C dX9_valueOf_173 rfl (by decide) ?_
            exact zs_lret (pc := 174) C hr hlk dX9_valueOf_174 ⟨by repeat (first | exact zsm_rf | assumption | refine zsm_C (by decide) ?_ | refine zsm_I (by decide) ?_ | refine zsm_J ?_ | refine zsm_c (by assumption) (by decide) ?_), (by with_reducible repeat (first | exact RO_rf | assumption | refine RO_0 (by decide) ?_ | refine RO_n 20 (by decide) (by omega) ?_ | refine RO_n 5 (by decide) (by omega) ?_ | refine RO_n 60 (by decide) (by omega) ?_ | refine RO_n 1 (by decide) (by omega) ?_ | refine RO_J (by decide) ?_ | refine RO_c (by assumption) ?_)), trivial⟩
          · skip
            refine zs_lload (pc := 162) C dX9_valueOf_162 rfl ?_
            refine zs_lconst (n := 0) (pc := 164) C dX9_valueOf_164 rfl (by decide) ?_
            refine zs_lcmp (pc := 165) C dX9_valueOf_165 (fun z165 hz165 => ?_)
            refine zs_if_eq (tgt := 173) (pc := 166) C dX9_valueOf_166 (by decide) (fun h166 => ?_) (fun h166 => ?_)
            · skip
              refine zs_lconst (n := 0) (pc := 173) C dX9_valueOf_173 rfl (by decide) ?_
              exact zs_lret (pc := 174) C hr hlk dX9_valueOf_174 ⟨by repeat (first | exact zsm_rf | assumption | refine zsm_C (by decide) ?_ | refine zsm_I (by decide) ?_ | refine zsm_J ?_ | refine zsm_c (by assumption) (by decide) ?_), (by with_reducible repeat (first | exact RO_rf | assumption | refine RO_0 (by decide) ?_ | refine RO_n 20 (by decide) (by omega) ?_ | refine RO_n 5 (by decide) (by omega) ?_ | refine RO_n 60 (by decide) (by omega) ?_ | refine RO_n 1 (by decide) (by omega) ?_ | refine RO_J (by decide) ?_ | refine RO_c (by assumption) ?_)), trivial⟩
            · skip
              refine zs_lconst (n := 1) (pc := 169) C dX9_valueOf_169 rfl (by decide) ?_
              refine zs_goto (tgt := 174) (pc := 170) C dX9_valueOf_170 (by decide) ?_
              exact zs_lret (pc := 174) C hr hlk dX9_valueOf_174 ⟨by repeat (first | exact zsm_rf | assumption | refine zsm_C (by decide) ?_ | refine zsm_I (by decide) ?_ | refine zsm_J ?_ | refine zsm_c (by assumption) (by decide) ?_), (by with_reducible repeat (first | exact RO_rf | assumption | refine RO_0 (by decide) ?_ | refine RO_n 20 (by decide) (by omega) ?_ | refine RO_n 5 (by decide) (by omega) ?_ | refine RO_n 60 (by decide) (by omega) ?_ | refine RO_n 1 (by decide) (by omega) ?_ | refine RO_J (by decide) ?_ | refine RO_c (by assumption) ?_)), trivial⟩
        · skip
          refine zs_tabIn (pc := 92) (tgt := 175) C 4 dX9_valueOf_92 h92 (by decide) rfl (by decide) ?_
          refine zs_lload_n (pc := 175) C dX9_valueOf_175 rfl ?_
          refine zs_lconst (n := 0) (pc := 176) C dX9_valueOf_176 rfl (by decide) ?_
          refine zs_lcmp (pc := 177) C dX9_valueOf_177 (fun z177 hz177 => ?_)
          refine zs_if_ne (tgt := 188) (pc := 178) C dX9_valueOf_178 (by decide) (fun h178 => ?_) (fun h178 => ?_)
          · skip
            refine zs_lconst (n := 1) (pc := 188) C dX9_valueOf_188 rfl (by decide) ?_
            refine zs_goto (tgt := 193) (pc := 189) C dX9_valueOf_189 (by decide) ?_
            exact zs_lret (pc := 193) C hr hlk dX9_valueOf_193 ⟨by repeat (first | exact zsm_rf | assumption | refine zsm_C (by decide) ?_ | refine zsm_I (by decide) ?_ | refine zsm_J ?_ | refine zsm_c (by assumption) (by decide) ?_), (by with_reducible repeat (first | exact RO_rf | assumption | refine RO_0 (by decide) ?_ | refine RO_n 20 (by decide) (by omega) ?_ | refine RO_n 5 (by decide) (by omega) ?_ | refine RO_n 60 (by decide) (by omega) ?_ | refine RO_n 1 (by decide) (by omega) ?_ | refine RO_J (by decide) ?_ | refine RO_c (by assumption) ?_)), trivial⟩
          · skip
            refine zs_lload (pc := 181) C dX9_valueOf_181 rfl ?_
            refine zs_lconst (n := 0) (pc := 183) C dX9_valueOf_183 rfl (by decide) ?_
            refine zs_lcmp (pc := 184) C dX9_valueOf_184 (fun z184 hz184 => ?_)
            refine zs_if_eq (tgt := 192) (pc := 185) C dX9_valueOf_185 (by decide) (fun h185 => ?_) (fun h185 => ?_)
            · skip
              refine zs_lconst (n := 0) (pc := 192) C dX9_valueOf_192 rfl (by decide) ?_
              exact zs_lret (pc := 193) C hr hlk dX9_valueOf_193 ⟨by repeat (first | exact zsm_rf | assumption | refine zsm_C (by decide) ?_ | refine zsm_I (by decide) ?_ | refine zsm_J ?_ | refine zsm_c (by assumption) (by decide) ?_), (by with_reducible repeat (first | exact RO_rf | assumption | refine RO_0 (by decide) ?_ | refine RO_n 20 (by decide) (by omega) ?_ | refine RO_n 5 (by decide) (by omega) ?_ | refine RO_n 60 (by decide) (by omega) ?_ | refine RO_n 1 (by decide) (by omega) ?_ | refine RO_J (by decide) ?_ | refine RO_c (by assumption) ?_)), trivial⟩
            · skip
              refine zs_lconst (n := 1) (pc := 188) C dX9_valueOf_188 rfl (by decide) ?_
              refine zs_goto (tgt := 193) (pc := 189) C dX9_valueOf_189 (by decide) ?_
              exact zs_lret (pc := 193) C hr hlk dX9_valueOf_193 ⟨by repeat (first | exact zsm_rf | assumption | refine zsm_C (by decide) ?_ | refine zsm_I (by decide) ?_ | refine zsm_J ?_ | refine zsm_c (by assumption) (by decide) ?_), (by with_reducible repeat (first | exact RO_rf | assumption | refine RO_0 (by decide) ?_ | refine RO_n 20 (by decide) (by omega) ?_ | refine RO_n 5 (by decide) (by omega) ?_ | refine RO_n 60 (by decide) (by omega) ?_ | refine RO_n 1 (by decide) (by omega) ?_ | refine RO_J (by decide) ?_ | refine RO_c (by assumption) ?_)), trivial⟩
        · skip
          refine zs_tabIn (pc := 92) (tgt := 259) C 5 dX9_valueOf_92 h92 (by decide) rfl (by decide) ?_
          refine zs_aload_n (pc := 259) C dX9_valueOf_259 rfl ?_
          refine zs_getf (pc := 260) C dX9_valueOf_260 w_X9_66 f_10_37 (by decide) ?_
          refine zs_iload_n (pc := 263) C dX9_valueOf_263 rfl ?_
          refine zs_iald (r := 2074) (pc := 264) C dX9_valueOf_264 a_74 (by decide) (by omega) rfl (r_2074 _) (fun v264 e264 l264 u264 => ?_)
          refine zs_lload_n (pc := 265) C dX9_valueOf_265 rfl ?_
          refine zs_lload (pc := 266) C dX9_valueOf_266 rfl ?_
          refine zSip3 (pc := 268) C dX9_valueOf_268 s_X9_371 (c_X9_compares hX ) (by decide) ⟨Nat.zero_le _, Nat.zero_le _⟩ (Nat.le_of_ble_eq_true rfl) (fun x268 l268 u268 hp268 => ?_)
          have hq268 := hp268
          refine zs_if_eq (tgt := 278) (pc := 271) C dX9_valueOf_271 (by decide) (fun h271 => ?_) (fun h271 => ?_)
          · skip
            refine zs_lconst (n := 0) (pc := 278) C dX9_valueOf_278 rfl (by decide) ?_
            exact zs_lret (pc := 279) C hr hlk dX9_valueOf_279 ⟨by repeat (first | exact zsm_rf | assumption | refine zsm_C (by decide) ?_ | refine zsm_I (by decide) ?_ | refine zsm_J ?_ | refine zsm_c (by assumption) (by decide) ?_), (by with_reducible repeat (first | exact RO_rf | assumption | refine RO_0 (by decide) ?_ | refine RO_n 20 (by decide) (by omega) ?_ | refine RO_n 5 (by decide) (by omega) ?_ | refine RO_n 60 (by decide) (by omega) ?_ | refine RO_n 1 (by decide) (by omega) ?_ | refine RO_J (by decide) ?_ | refine RO_c (by assumption) ?_)), trivial⟩
          · skip
            refine zs_lconst (n := 1) (pc := 274) C dX9_valueOf_274 rfl (by decide) ?_
            refine zs_goto (tgt := 279) (pc := 275) C dX9_valueOf_275 (by decide) ?_
            exact zs_lret (pc := 279) C hr hlk dX9_valueOf_279 ⟨by repeat (first | exact zsm_rf | assumption | refine zsm_C (by decide) ?_ | refine zsm_I (by decide) ?_ | refine zsm_J ?_ | refine zsm_c (by assumption) (by decide) ?_), (by with_reducible repeat (first | exact RO_rf | assumption | refine RO_0 (by decide) ?_ | refine RO_n 20 (by decide) (by omega) ?_ | refine RO_n 5 (by decide) (by omega) ?_ | refine RO_n 60 (by decide) (by omega) ?_ | refine RO_n 1 (by decide) (by omega) ?_ | refine RO_J (by decide) ?_ | refine RO_c (by assumption) ?_)), trivial⟩
        · skip
          refine zs_tabIn (pc := 92) (tgt := 259) C 6 dX9_valueOf_92 h92 (by decide) rfl (by decide) ?_
          refine zs_aload_n (pc := 259) C dX9_valueOf_259 rfl ?_
          refine zs_getf (pc := 260) C dX9_valueOf_260 w_X9_66 f_10_37 (by decide) ?_
          refine zs_iload_n (pc := 263) C dX9_valueOf_263 rfl ?_
          refine zs_iald (r := 2074) (pc := 264) C dX9_valueOf_264 a_74 (by decide) (by omega) rfl (r_2074 _) (fun v264 e264 l264 u264 => ?_)
          refine zs_lload_n (pc := 265) C dX9_valueOf_265 rfl ?_
          refine zs_lload (pc := 266) C dX9_valueOf_266 rfl ?_
          refine zSip3 (pc := 268) C dX9_valueOf_268 s_X9_371 (c_X9_compares hX ) (by decide) ⟨Nat.zero_le _, Nat.zero_le _⟩ (Nat.le_of_ble_eq_true rfl) (fun x268 l268 u268 hp268 => ?_)
          have hq268 := hp268
          refine zs_if_eq (tgt := 278) (pc := 271) C dX9_valueOf_271 (by decide) (fun h271 => ?_) (fun h271 => ?_)
          · skip
            refine zs_lconst (n := 0) (pc := 278) C dX9_valueOf_278 rfl (by decide) ?_
            exact zs_lret (pc := 279) C hr hlk dX9_valueOf_279 ⟨by repeat (first | exact zsm_rf | assumption | refine zsm_C (by decide) ?_ | refine zsm_I (by decide) ?_ | refine zsm_J ?_ | refine zsm_c (by assumption) (by decide) ?_), (by with_reducible repeat (first | exact RO_rf | assumption | refine RO_0 (by decide) ?_ | refine RO_n 20 (by decide) (by omega) ?_ | refine RO_n 5 (by decide) (by omega) ?_ | refine RO_n 60 (by decide) (by omega) ?_ | refine RO_n 1 (by decide) (by omega) ?_ | refine RO_J (by decide) ?_ | refine RO_c (by assumption) ?_)), trivial⟩
          · skip
            refine zs_lconst (n := 1) (pc := 274) C dX9_valueOf_274 rfl (by decide) ?_
            refine zs_goto (tgt := 279) (pc := 275) C dX9_valueOf_275 (by decide) ?_
            exact zs_lret (pc := 279) C hr hlk dX9_valueOf_279 ⟨by repeat (first | exact zsm_rf | assumption | refine zsm_C (by decide) ?_ | refine zsm_I (by decide) ?_ | refine zsm_J ?_ | refine zsm_c (by assumption) (by decide) ?_), (by with_reducible repeat (first | exact RO_rf | assumption | refine RO_0 (by decide) ?_ | refine RO_n 20 (by decide) (by omega) ?_ | refine RO_n 5 (by decide) (by omega) ?_ | refine RO_n 60 (by decide) (by omega) ?_ | refine RO_n 1 (by decide) (by omega) ?_ | refine RO_J (by decide) ?_ | refine RO_c (by assumption) ?_)), trivial⟩
        · skip
          refine zs_tabIn (pc := 92) (tgt := 259) C 7 dX9_valueOf_92 h92 (by decide) rfl (by decide) ?_
          refine zs_aload_n (pc := 259) C dX9_valueOf_259 rfl ?_
          refine zs_getf (pc := 260) C dX9_valueOf_260 w_X9_66 f_10_37 (by decide) ?_
          refine zs_iload_n (pc := 263) C dX9_valueOf_263 rfl ?_
          refine zs_iald (r := 2074) (pc := 264) C dX9_valueOf_264 a_74 (by decide) (by omega) rfl (r_2074 _) (fun v264 e264 l264 u264 => ?_)
          refine zs_lload_n (pc := 265) C dX9_valueOf_265 rfl ?_
          refine zs_lload (pc := 266) C dX9_valueOf_266 rfl ?_
          refine zSip3 (pc := 268) C dX9_valueOf_268 s_X9_371 (c_X9_compares hX ) (by decide) ⟨Nat.zero_le _, Nat.zero_le _⟩ (Nat.le_of_ble_eq_true rfl) (fun x268 l268 u268 hp268 => ?_)
          have hq268 := hp268
          refine zs_if_eq (tgt := 278) (pc := 271) C dX9_valueOf_271 (by decide) (fun h271 => ?_) (fun h271 => ?_)
          · skip
            refine zs_lconst (n := 0) (pc := 278) C dX9_valueOf_278 rfl (by decide) ?_
            exact zs_lret (pc := 279) C hr hlk dX9_valueOf_279 ⟨by repeat (first | exact zsm_rf | assumption | refine zsm_C (by decide) ?_ | refine zsm_I (by decide) ?_ | refine zsm_J ?_ | refine zsm_c (by assumption) (by decide) ?_), (by with_reducible repeat (first | exact RO_rf | assumption | refine RO_0 (by decide) ?_ | refine RO_n 20 (by decide) (by omega) ?_ | refine RO_n 5 (by decide) (by omega) ?_ | refine RO_n 60 (by decide) (by omega) ?_ | refine RO_n 1 (by decide) (by omega) ?_ | refine RO_J (by decide) ?_ | refine RO_c (by assumption) ?_)), trivial⟩
          · skip
            refine zs_lconst (n := 1) (pc := 274) C dX9_valueOf_274 rfl (by decide) ?_
            refine zs_goto (tgt := 279) (pc := 275) C dX9_valueOf_275 (by decide) ?_
            exact zs_lret (pc := 279) C hr hlk dX9_valueOf_279 ⟨by repeat (first | exact zsm_rf | assumption | refine zsm_C (by decide) ?_ | refine zsm_I (by decide) ?_ | refine zsm_J ?_ | refine zsm_c (by assumption) (by decide) ?_), (by with_reducible repeat (first | exact RO_rf | assumption | refine RO_0 (by decide) ?_ | refine RO_n 20 (by decide) (by omega) ?_ | refine RO_n 5 (by decide) (by omega) ?_ | refine RO_n 60 (by decide) (by omega) ?_ | refine RO_n 1 (by decide) (by omega) ?_ | refine RO_J (by decide) ?_ | refine RO_c (by assumption) ?_)), trivial⟩
        · skip
          refine zs_tabIn (pc := 92) (tgt := 259) C 8 dX9_valueOf_92 h92 (by decide) rfl (by decide) ?_
          refine zs_aload_n (pc := 259) C dX9_valueOf_259 rfl ?_
          refine zs_getf (pc := 260) C dX9_valueOf_260 w_X9_66 f_10_37 (by decide) ?_
          refine zs_iload_n (pc := 263) C dX9_valueOf_263 rfl ?_
          refine zs_iald (r := 2074) (pc := 264) C dX9_valueOf_264 a_74 (by decide) (by omega) rfl (r_2074 _) (fun v264 e264 l264 u264 => ?_)
          refine zs_lload_n (pc := 265) C dX9_valueOf_265 rfl ?_
          refine zs_lload (pc := 266) C dX9_valueOf_266 rfl ?_
          refine zSip3 (pc := 268) C dX9_valueOf_268 s_X9_371 (c_X9_compares hX ) (by decide) ⟨Nat.zero_le _, Nat.zero_le _⟩ (Nat.le_of_ble_eq_true rfl) (fun x268 l268 u268 hp268 => ?_)
          have hq268 := hp268
          refine zs_if_eq (tgt := 278) (pc := 271) C dX9_valueOf_271 (by decide) (fun h271 => ?_) (fun h271 => ?_)
          · skip
            refine zs_lconst (n := 0) (pc := 278) C dX9_valueOf_278 rfl (by decide) ?_
            exact zs_lret (pc := 279) C hr hlk dX9_valueOf_279 ⟨by repeat (first | exact zsm_rf | assumption | refine zsm_C (by decide) ?_ | refine zsm_I (by decide) ?_ | refine zsm_J ?_ | refine zsm_c (by assumption) (by decide) ?_), (by with_reducible repeat (first | exact RO_rf | assumption | refine RO_0 (by decide) ?_ | refine RO_n 20 (by decide) (by omega) ?_ | refine RO_n 5 (by decide) (by omega) ?_ | refine RO_n 60 (by decide) (by omega) ?_ | refine RO_n 1 (by decide) (by omega) ?_ | refine RO_J (by decide) ?_ | refine RO_c (by assumption) ?_)), trivial⟩
          · skip
            refine zs_lconst (n := 1) (pc := 274) C dX9_valueOf_274 rfl (by decide) ?_
            refine zs_goto (tgt := 279) (pc := 275) C dX9_valueOf_275 (by decide) ?_
            exact zs_lret (pc := 279) C hr hlk dX9_valueOf_279 ⟨by repeat (first | exact zsm_rf | assumption | refine zsm_C (by decide) ?_ | refine zsm_I (by decide) ?_ | refine zsm_J ?_ | refine zsm_c (by assumption) (by decide) ?_), (by with_reducible repeat (first | exact RO_rf | assumption | refine RO_0 (by decide) ?_ | refine RO_n 20 (by decide) (by omega) ?_ | refine RO_n 5 (by decide) (by omega) ?_ | refine RO_n 60 (by decide) (by omega) ?_ | refine RO_n 1 (by decide) (by omega) ?_ | refine RO_J (by decide) ?_ | refine RO_c (by assumption) ?_)), trivial⟩
        · skip
          refine zs_tabIn (pc := 92) (tgt := 259) C 9 dX9_valueOf_92 h92 (by decide) rfl (by decide) ?_
          refine zs_aload_n (pc := 259) C dX9_valueOf_259 rfl ?_
          refine zs_getf (pc := 260) C dX9_valueOf_260 w_X9_66 f_10_37 (by decide) ?_
          refine zs_iload_n (pc := 263) C dX9_valueOf_263 rfl ?_
          refine zs_iald (r := 2074) (pc := 264) C dX9_valueOf_264 a_74 (by decide) (by omega) rfl (r_2074 _) (fun v264 e264 l264 u264 => ?_)
          refine zs_lload_n (pc := 265) C dX9_valueOf_265 rfl ?_
          refine zs_lload (pc := 266) C dX9_valueOf_266 rfl ?_
          refine zSip3 (pc := 268) C dX9_valueOf_268 s_X9_371 (c_X9_compares hX ) (by decide) ⟨Nat.zero_le _, Nat.zero_le _⟩ (Nat.le_of_ble_eq_true rfl) (fun x268 l268 u268 hp268 => ?_)
          have hq268 := hp268
          refine zs_if_eq (tgt := 278) (pc := 271) C dX9_valueOf_271 (by decide) (fun h271 => ?_) (fun h271 => ?_)
          · skip
            refine zs_lconst (n := 0) (pc := 278) C dX9_valueOf_278 rfl (by decide) ?_
            exact zs_lret (pc := 279) C hr hlk dX9_valueOf_279 ⟨by repeat (first | exact zsm_rf | assumption | refine zsm_C (by decide) ?_ | refine zsm_I (by decide) ?_ | refine zsm_J ?_ | refine zsm_c (by assumption) (by decide) ?_), (by with_reducible repeat (first | exact RO_rf | assumption | refine RO_0 (by decide) ?_ | refine RO_n 20 (by decide) (by omega) ?_ | refine RO_n 5 (by decide) (by omega) ?_ | refine RO_n 60 (by decide) (by omega) ?_ | refine RO_n 1 (by decide) (by omega) ?_ | refine RO_J (by decide) ?_ | refine RO_c (by assumption) ?_)), trivial⟩
          · skip
            refine zs_lconst (n := 1) (pc := 274) C dX9_valueOf_274 rfl (by decide) ?_
            refine zs_goto (tgt := 279) (pc := 275) C dX9_valueOf_275 (by decide) ?_
            exact zs_lret (pc := 279) C hr hlk dX9_valueOf_279 ⟨by repeat (first | exact zsm_rf | assumption | refine zsm_C (by decide) ?_ | refine zsm_I (by decide) ?_ | refine zsm_J ?_ | refine zsm_c (by assumption) (by decide) ?_), (by with_reducible repeat (first | exact RO_rf | assumption | refine RO_0 (by decide) ?_ | refine RO_n 20 (by decide) (by omega) ?_ | refine RO_n 5 (by decide) (by omega) ?_ | refine RO_n 60 (by decide) (by omega) ?_ | refine RO_n 1 (by decide) (by omega) ?_ | refine RO_J (by decide) ?_ | refine RO_c (by assumption) ?_)), trivial⟩
        · skip
          refine zs_tabIn (pc := 92) (tgt := 259) C 10 dX9_valueOf_92 h92 (by decide) rfl (by decide) ?_
          refine zs_aload_n (pc := 259) C dX9_valueOf_259 rfl ?_
          refine zs_getf (pc := 260) C dX9_valueOf_260 w_X9_66 f_10_37 (by decide) ?_
          refine zs_iload_n (pc := 263) C dX9_valueOf_263 rfl ?_
          refine zs_iald (r := 2074) (pc := 264) C dX9_valueOf_264 a_74 (by decide) (by omega) rfl (r_2074 _) (fun v264 e264 l264 u264 => ?_)
          refine zs_lload_n (pc := 265) C dX9_valueOf_265 rfl ?_
          refine zs_lload (pc := 266) C dX9_valueOf_266 rfl ?_
          refine zSip3 (pc := 268) C dX9_valueOf_268 s_X9_371 (c_X9_compares hX ) (by decide) ⟨Nat.zero_le _, Nat.zero_le _⟩ (Nat.le_of_ble_eq_true rfl) (fun x268 l268 u268 hp268 => ?_)
          have hq268 := hp268
          refine zs_if_eq (tgt := 278) (pc := 271) C dX9_valueOf_271 (by decide) (fun h271 => ?_) (fun h271 => ?_)
          · skip
            refine zs_lconst (n := 0) (pc := 278) C dX9_valueOf_278 rfl (by decide) ?_
            exact zs_lret (pc := 279) C hr hlk dX9_valueOf_279 ⟨by repeat (first | exact zsm_rf | assumption | refine zsm_C (by decide) ?_ | refine zsm_I (by decide) ?_ | refine zsm_J ?_ | refine zsm_c (by assumption) (by decide) ?_), (by with_reducible repeat (first | exact RO_rf | assumption | refine RO_0 (by decide) ?_ | refine RO_n 20 (by decide) (by omega) ?_ | refine RO_n 5 (by decide) (by omega) ?_ | refine RO_n 60 (by decide) (by omega) ?_ | refine RO_n 1 (by decide) (by omega) ?_ | refine RO_J (by decide) ?_ | refine RO_c (by assumption) ?_)), trivial⟩
          · skip
            refine zs_lconst (n := 1) (pc := 274) C dX9_valueOf_274 rfl (by decide) ?_
            refine zs_goto (tgt := 279) (pc := 275) C dX9_valueOf_275 (by decide) ?_
            exact zs_lret (pc := 279) C hr hlk dX9_valueOf_279 ⟨by repeat (first | exact zsm_rf | assumption | refine zsm_C (by decide) ?_ | refine zsm_I (by decide) ?_ | refine zsm_J ?_ | refine zsm_c (by assumption) (by decide) ?_), (by with_reducible repeat (first | exact RO_rf | assumption | refine RO_0 (by decide) ?_ | refine RO_n 20 (by decide) (by omega) ?_ | refine RO_n 5 (by decide) (by omega) ?_ | refine RO_n 60 (by decide) (by omega) ?_ | refine RO_n 1 (by decide) (by omega) ?_ | refine RO_J (by decide) ?_ | refine RO_c (by assumption) ?_)), trivial⟩
        · skip
          refine zs_tabIn (pc := 92) (tgt := 194) C 11 dX9_valueOf_92 h92 (by decide) rfl (by decide) ?_
          refine zs_aload_n (pc := 194) C dX9_valueOf_194 rfl ?_
          refine zs_lload_n (pc := 195) C dX9_valueOf_195 rfl ?_
          refine zs_lload (pc := 196) C dX9_valueOf_196 rfl ?_
          refine zs_laddF (pc := 198) C dX9_valueOf_198 (fun z198 hz1981 hz1982 => ?_)
          refine zVj1 (pc := 199) C dX9_valueOf_199 v_X9_364 (c_X9_boundedO hX ) (by decide) (by decide) ⟨Nat.zero_le _, Nat.zero_le _⟩ (Nat.le_of_ble_eq_true rfl) (fun x199 G199 l199 u199 hp199 => ?_)
          obtain ⟨hz199, lo199, hq199⟩ := hp199
          exact zs_lret (pc := 202) C hr hlk dX9_valueOf_202 ⟨by repeat (first | exact zsm_rf | assumption | refine zsm_C (by decide) ?_ | refine zsm_I (by decide) ?_ | refine zsm_J ?_ | refine zsm_c (by assumption) (by decide) ?_), (by with_reducible repeat (first | exact RO_rf | assumption | refine RO_0 (by decide) ?_ | refine RO_n 20 (by decide) (by omega) ?_ | refine RO_n 5 (by decide) (by omega) ?_ | refine RO_n 60 (by decide) (by omega) ?_ | refine RO_n 1 (by decide) (by omega) ?_ | refine RO_J (by decide) ?_ | refine RO_c (by assumption) ?_)), trivial⟩
        · skip
          refine zs_tabIn (pc := 92) (tgt := 203) C 12 dX9_valueOf_92 h92 (by decide) rfl (by decide) ?_
          refine zs_aload_n (pc := 203) C dX9_valueOf_203 rfl ?_
          refine zs_lload_n (pc := 204) C dX9_valueOf_204 rfl ?_
          refine zs_lload (pc := 205) C dX9_valueOf_205 rfl ?_
          refine zs_lsubF (pc := 207) C dX9_valueOf_207 (fun z207 hz2071 hz2072 => ?_)
          refine zVj1 (pc := 208) C dX9_valueOf_208 v_X9_364 (c_X9_boundedO hX ) (by decide) (by decide) ⟨Nat.zero_le _, Nat.zero_le _⟩ (Nat.le_of_ble_eq_true rfl) (fun x208 G208 l208 u208 hp208 => ?_)
          obtain ⟨hz208, lo208, hq208⟩ := hp208
          exact zs_lret (pc := 211) C hr hlk dX9_valueOf_211 ⟨by repeat (first | exact zsm_rf | assumption | refine zsm_C (by decide) ?_ | refine zsm_I (by decide) ?_ | refine zsm_J ?_ | refine zsm_c (by assumption) (by decide) ?_), (by with_reducible repeat (first | exact RO_rf | assumption | refine RO_0 (by decide) ?_ | refine RO_n 20 (by decide) (by omega) ?_ | refine RO_n 5 (by decide) (by omega) ?_ | refine RO_n 60 (by decide) (by omega) ?_ | refine RO_n 1 (by decide) (by omega) ?_ | refine RO_J (by decide) ?_ | refine RO_c (by assumption) ?_)), trivial⟩
        · skip
          refine zs_tabIn (pc := 92) (tgt := 212) C 13 dX9_valueOf_92 h92 (by decide) rfl (by decide) ?_
          refine zs_aload_n (pc := 212) C dX9_valueOf_212 rfl ?_
          refine zs_lload_n (pc := 213) C dX9_valueOf_213 rfl ?_
          refine zs_lload (pc := 214) C dX9_valueOf_214 rfl ?_
          refine zVj2 (pc := 216) C dX9_valueOf_216 v_X9_368 (c_X9_timesO hX ) (by decide) (by decide) ⟨Nat.zero_le _, Nat.zero_le _⟩ (Nat.le_of_ble_eq_true rfl) (fun x216 G216 l216 u216 hp216 => ?_)
          obtain ⟨hz216, lo216, hq216⟩ := hp216
          exact zs_lret (pc := 219) C hr hlk dX9_valueOf_219 ⟨by repeat (first | exact zsm_rf | assumption | refine zsm_C (by decide) ?_ | refine zsm_I (by decide) ?_ | refine zsm_J ?_ | refine zsm_c (by assumption) (by decide) ?_), (by with_reducible repeat (first | exact RO_rf | assumption | refine RO_0 (by decide) ?_ | refine RO_n 20 (by decide) (by omega) ?_ | refine RO_n 5 (by decide) (by omega) ?_ | refine RO_n 60 (by decide) (by omega) ?_ | refine RO_n 1 (by decide) (by omega) ?_ | refine RO_J (by decide) ?_ | refine RO_c (by assumption) ?_)), trivial⟩
        · skip
          refine zs_tabIn (pc := 92) (tgt := 220) C 14 dX9_valueOf_92 h92 (by decide) rfl (by decide) ?_
          refine zs_aload_n (pc := 220) C dX9_valueOf_220 rfl ?_
          refine zs_aload_n (pc := 221) C dX9_valueOf_221 rfl ?_
          refine zs_getz (r := 1050) (pc := 222) C dX9_valueOf_222 w_X9_357 f_10_50 rfl (r_1050 0) (fun v222 e222 l222 u222 => ?_)
          refine zs_if_ne (tgt := 235) (pc := 225) C dX9_valueOf_225 (by decide) (fun h225 => ?_) (fun h225 => ?_)
          · skip
            refine zs_iconst (pc := 235) C dX9_valueOf_235 (by decide) ?_
            refine zs_goto (tgt := 240) (pc := 236) C dX9_valueOf_236 (by decide) ?_
            refine zs_putz (r := 1050) (pc := 240) C dX9_valueOf_240 w_X9_357 f_10_50 rfl (r_1050 0) (by omega) (by omega) ?_
            refine zs_aload_n (pc := 243) C dX9_valueOf_243 rfl ?_
            refine zs_getz (r := 1050) (pc := 244) C dX9_valueOf_244 w_X9_357 f_10_50 rfl (r_1050 0) (fun v244 e244 l244 u244 => ?_)
            try simp only [zuI_1, zuI_2, zuJ_1, zuJ_2, zuJ_3, zuP_1, zuP_2, zuP_3, zuC_1, zuC_2, reduceIte, Nat.reduceEqDiff, false_and, and_false, true_and, and_true, and_self, or_true, true_or, or_false, false_or] at e244
            refine zs_if_eq (tgt := 254) (pc := 247) C dX9_valueOf_247 (by decide) (fun h247 => ?_) (fun h247 => ?_)
            · skip
              refine zs_lload_n (pc := 254) C dX9_valueOf_254 rfl ?_
              refine zs_lload (pc := 255) C dX9_valueOf_255 rfl ?_
              refine zs_ldiv (pc := 257) C dX9_valueOf_257 (by omega) (fun z257 hz2571 hz2572 => ?_)
              exact zs_lret (pc := 258) C hr hlk dX9_valueOf_258 ⟨by repeat (first | exact zsm_rf | assumption | refine zsm_C (by decide) ?_ | refine zsm_I (by decide) ?_ | refine zsm_J ?_ | refine zsm_c (by assumption) (by decide) ?_), (by with_reducible repeat (first | exact RO_rf | assumption | refine RO_0 (by decide) ?_ | refine RO_n 20 (by decide) (by omega) ?_ | refine RO_n 5 (by decide) (by omega) ?_ | refine RO_n 60 (by decide) (by omega) ?_ | refine RO_n 1 (by decide) (by omega) ?_ | refine RO_J (by decide) ?_ | refine RO_c (by assumption) ?_)), trivial⟩
            · skip
              refine zs_lconst (n := 0) (pc := 250) C dX9_valueOf_250 rfl (by decide) ?_
              refine zs_goto (tgt := 258) (pc := 251) C dX9_valueOf_251 (by decide) ?_
              exact zs_lret (pc := 258) C hr hlk dX9_valueOf_258 ⟨by repeat (first | exact zsm_rf | assumption | refine zsm_C (by decide) ?_ | refine zsm_I (by decide) ?_ | refine zsm_J ?_ | refine zsm_c (by assumption) (by decide) ?_), (by with_reducible repeat (first | exact RO_rf | assumption | refine RO_0 (by decide) ?_ | refine RO_n 20 (by decide) (by omega) ?_ | refine RO_n 5 (by decide) (by omega) ?_ | refine RO_n 60 (by decide) (by omega) ?_ | refine RO_n 1 (by decide) (by omega) ?_ | refine RO_J (by decide) ?_ | refine RO_c (by assumption) ?_)), trivial⟩
          · skip
            refine zs_lload (pc := 228) C dX9_valueOf_228 rfl ?_
            refine zs_lconst (n := 0) (pc := 230) C dX9_valueOf_230 rfl (by decide) ?_
            refine zs_lcmp (pc := 231) C dX9_valueOf_231 (fun z231 hz231 => ?_)
            refine zs_if_ne (tgt := 239) (pc := 232) C dX9_valueOf_232 (by decide) (fun h232 => ?_) (fun h232 => ?_)
            · skip
              refine zs_iconst (pc := 239) C dX9_valueOf_239 (by decide) ?_
              refine zs_putz (r := 1050) (pc := 240) C dX9_valueOf_240 w_X9_357 f_10_50 rfl (r_1050 0) (by omega) (by omega) ?_
              refine zs_aload_n (pc := 243) C dX9_valueOf_243 rfl ?_
              refine zs_getz (r := 1050) (pc := 244) C dX9_valueOf_244 w_X9_357 f_10_50 rfl (r_1050 0) (fun v244 e244 l244 u244 => ?_)
              try simp only [zuI_1, zuI_2, zuJ_1, zuJ_2, zuJ_3, zuP_1, zuP_2, zuP_3, zuC_1, zuC_2, reduceIte, Nat.reduceEqDiff, false_and, and_false, true_and, and_true, and_self, or_true, true_or, or_false, false_or] at e244
              refine zs_if_eq (tgt := 254) (pc := 247) C dX9_valueOf_247 (by decide) (fun h247 => ?_) (fun h247 => ?_)
              · skip
                refine zs_lload_n (pc := 254) C dX9_valueOf_254 rfl ?_
                refine zs_lload (pc := 255) C dX9_valueOf_255 rfl ?_
                refine zs_ldiv (pc := 257) C dX9_valueOf_257 (by omega) (fun z257 hz2571 hz2572 => ?_)
                exact zs_lret (pc := 258) C hr hlk dX9_valueOf_258 ⟨by repeat (first | exact zsm_rf | assumption | refine zsm_C (by decide) ?_ | refine zsm_I (by decide) ?_ | refine zsm_J ?_ | refine zsm_c (by assumption) (by decide) ?_), (by with_reducible repeat (first | exact RO_rf | assumption | refine RO_0 (by decide) ?_ | refine RO_n 20 (by decide) (by omega) ?_ | refine RO_n 5 (by decide) (by omega) ?_ | refine RO_n 60 (by decide) (by omega) ?_ | refine RO_n 1 (by decide) (by omega) ?_ | refine RO_J (by decide) ?_ | refine RO_c (by assumption) ?_)), trivial⟩
              · skip
                refine zs_lconst (n := 0) (pc := 250) C dX9_valueOf_250 rfl (by decide) ?_
                refine zs_goto (tgt := 258) (pc := 251) C dX9_valueOf_251 (by decide) ?_
                exact zs_lret (pc := 258) C hr hlk dX9_valueOf_258 ⟨by repeat (first | exact zsm_rf | assumption | refine zsm_C (by decide) ?_ | refine zsm_I (by decide) ?_ | refine zsm_J ?_ | refine zsm_c (by assumption) (by decide) ?_), (by with_reducible repeat (first | exact RO_rf | assumption | refine RO_0 (by decide) ?_ | refine RO_n 20 (by decide) (by omega) ?_ | refine RO_n 5 (by decide) (by omega) ?_ | refine RO_n 60 (by decide) (by omega) ?_ | refine RO_n 1 (by decide) (by omega) ?_ | refine RO_J (by decide) ?_ | refine RO_c (by assumption) ?_)), trivial⟩
            · skip
              refine zs_iconst (pc := 235) C dX9_valueOf_235 (by decide) ?_
              refine zs_goto (tgt := 240) (pc := 236) C dX9_valueOf_236 (by decide) ?_
              refine zs_putz (r := 1050) (pc := 240) C dX9_valueOf_240 w_X9_357 f_10_50 rfl (r_1050 0) (by omega) (by omega) ?_
              refine zs_aload_n (pc := 243) C dX9_valueOf_243 rfl ?_
              refine zs_getz (r := 1050) (pc := 244) C dX9_valueOf_244 w_X9_357 f_10_50 rfl (r_1050 0) (fun v244 e244 l244 u244 => ?_)
              try simp only [zuI_1, zuI_2, zuJ_1, zuJ_2, zuJ_3, zuP_1, zuP_2, zuP_3, zuC_1, zuC_2, reduceIte, Nat.reduceEqDiff, false_and, and_false, true_and, and_true, and_self, or_true, true_or, or_false, false_or] at e244
              refine zs_if_eq (tgt := 254) (pc := 247) C dX9_valueOf_247 (by decide) (fun h247 => ?_) (fun h247 => ?_)
              · skip
                refine zs_lload_n (pc := 254) C dX9_valueOf_254 rfl ?_
                refine zs_lload (pc := 255) C dX9_valueOf_255 rfl ?_
                refine zs_ldiv (pc := 257) C dX9_valueOf_257 (by omega) (fun z257 hz2571 hz2572 => ?_)
                exact zs_lret (pc := 258) C hr hlk dX9_valueOf_258 ⟨by repeat (first | exact zsm_rf | assumption | refine zsm_C (by decide) ?_ | refine zsm_I (by decide) ?_ | refine zsm_J ?_ | refine zsm_c (by assumption) (by decide) ?_), (by with_reducible repeat (first | exact RO_rf | assumption | refine RO_0 (by decide) ?_ | refine RO_n 20 (by decide) (by omega) ?_ | refine RO_n 5 (by decide) (by omega) ?_ | refine RO_n 60 (by decide) (by omega) ?_ | refine RO_n 1 (by decide) (by omega) ?_ | refine RO_J (by decide) ?_ | refine RO_c (by assumption) ?_)), trivial⟩
              · skip
                refine zs_lconst (n := 0) (pc := 250) C dX9_valueOf_250 rfl (by decide) ?_
                refine zs_goto (tgt := 258) (pc := 251) C dX9_valueOf_251 (by decide) ?_
                exact zs_lret (pc := 258) C hr hlk dX9_valueOf_258 ⟨by repeat (first | exact zsm_rf | assumption | refine zsm_C (by decide) ?_ | refine zsm_I (by decide) ?_ | refine zsm_J ?_ | refine zsm_c (by assumption) (by decide) ?_), (by with_reducible repeat (first | exact RO_rf | assumption | refine RO_0 (by decide) ?_ | refine RO_n 20 (by decide) (by omega) ?_ | refine RO_n 5 (by decide) (by omega) ?_ | refine RO_n 60 (by decide) (by omega) ?_ | refine RO_n 1 (by decide) (by omega) ?_ | refine RO_J (by decide) ?_ | refine RO_c (by assumption) ?_)), trivial⟩
        · skip
          refine zs_tabOut (tgt := 259) (pc := 92) C dX9_valueOf_92 h92 (by decide) ?_
          refine zs_aload_n (pc := 259) C dX9_valueOf_259 rfl ?_
          refine zs_getf (pc := 260) C dX9_valueOf_260 w_X9_66 f_10_37 (by decide) ?_
          refine zs_iload_n (pc := 263) C dX9_valueOf_263 rfl ?_
          refine zs_iald (r := 2074) (pc := 264) C dX9_valueOf_264 a_74 (by decide) (by omega) rfl (r_2074 _) (fun v264 e264 l264 u264 => ?_)
          refine zs_lload_n (pc := 265) C dX9_valueOf_265 rfl ?_
          refine zs_lload (pc := 266) C dX9_valueOf_266 rfl ?_
          refine zSip3 (pc := 268) C dX9_valueOf_268 s_X9_371 (c_X9_compares hX ) (by decide) ⟨Nat.zero_le _, Nat.zero_le _⟩ (Nat.le_of_ble_eq_true rfl) (fun x268 l268 u268 hp268 => ?_)
          have hq268 := hp268
          refine zs_if_eq (tgt := 278) (pc := 271) C dX9_valueOf_271 (by decide) (fun h271 => ?_) (fun h271 => ?_)
          · skip
            refine zs_lconst (n := 0) (pc := 278) C dX9_valueOf_278 rfl (by decide) ?_
            exact zs_lret (pc := 279) C hr hlk dX9_valueOf_279 ⟨by repeat (first | exact zsm_rf | assumption | refine zsm_C (by decide) ?_ | refine zsm_I (by decide) ?_ | refine zsm_J ?_ | refine zsm_c (by assumption) (by decide) ?_), (by with_reducible repeat (first | exact RO_rf | assumption | refine RO_0 (by decide) ?_ | refine RO_n 20 (by decide) (by omega) ?_ | refine RO_n 5 (by decide) (by omega) ?_ | refine RO_n 60 (by decide) (by omega) ?_ | refine RO_n 1 (by decide) (by omega) ?_ | refine RO_J (by decide) ?_ | refine RO_c (by assumption) ?_)), trivial⟩
          · skip
            refine zs_lconst (n := 1) (pc := 274) C dX9_valueOf_274 rfl (by decide) ?_
            refine zs_goto (tgt := 279) (pc := 275) C dX9_valueOf_275 (by decide) ?_
            exact zs_lret (pc := 279) C hr hlk dX9_valueOf_279 ⟨by repeat (first | exact zsm_rf | assumption | refine zsm_C (by decide) ?_ | refine zsm_I (by decide) ?_ | refine zsm_J ?_ | refine zsm_c (by assumption) (by decide) ?_), (by with_reducible repeat (first | exact RO_rf | assumption | refine RO_0 (by decide) ?_ | refine RO_n 20 (by decide) (by omega) ?_ | refine RO_n 5 (by decide) (by omega) ?_ | refine RO_n 60 (by decide) (by omega) ?_ | refine RO_n 1 (by decide) (by omega) ?_ | refine RO_J (by decide) ?_ | refine RO_c (by assumption) ?_)), trivial⟩
      · skip
        refine zs_lload_n (pc := 61) C dX9_valueOf_61 rfl ?_
        refine zs_lconst (n := 0) (pc := 62) C dX9_valueOf_62 rfl (by decide) ?_
        refine zs_lcmp (pc := 63) C dX9_valueOf_63 (fun z63 hz63 => ?_)
        refine zs_if_ne (tgt := 71) (pc := 64) C dX9_valueOf_64 (by decide) (fun h64 => ?_) (fun h64 => ?_)
        · skip
          refine zs_lconst (n := 0) (pc := 71) C dX9_valueOf_71 rfl (by decide) ?_
          exact zs_lret (pc := 72) C hr hlk dX9_valueOf_72 ⟨by repeat (first | exact zsm_rf | assumption | refine zsm_C (by decide) ?_ | refine zsm_I (by decide) ?_ | refine zsm_J ?_ | refine zsm_c (by assumption) (by decide) ?_), (by with_reducible repeat (first | exact RO_rf | assumption | refine RO_0 (by decide) ?_ | refine RO_n 20 (by decide) (by omega) ?_ | refine RO_n 5 (by decide) (by omega) ?_ | refine RO_n 60 (by decide) (by omega) ?_ | refine RO_n 1 (by decide) (by omega) ?_ | refine RO_J (by decide) ?_ | refine RO_c (by assumption) ?_)), trivial⟩
        · skip
          refine zs_lconst (n := 1) (pc := 67) C dX9_valueOf_67 rfl (by decide) ?_
          refine zs_goto (tgt := 72) (pc := 68) C dX9_valueOf_68 (by decide) ?_
          exact zs_lret (pc := 72) C hr hlk dX9_valueOf_72 ⟨by repeat (first | exact zsm_rf | assumption | refine zsm_C (by decide) ?_ | refine zsm_I (by decide) ?_ | refine zsm_J ?_ | refine zsm_c (by assumption) (by decide) ?_), (by with_reducible repeat (first | exact RO_rf | assumption | refine RO_0 (by decide) ?_ | refine RO_n 20 (by decide) (by omega) ?_ | refine RO_n 5 (by decide) (by omega) ?_ | refine RO_n 60 (by decide) (by omega) ?_ | refine RO_n 1 (by decide) (by omega) ?_ | refine RO_J (by decide) ?_ | refine RO_c (by assumption) ?_)), trivial⟩
    · skip
      refine zs_aload_n (pc := 27) C dX9_valueOf_27 rfl ?_
      refine zs_getf (pc := 28) C dX9_valueOf_28 w_X9_81 f_10_48 (by decide) ?_
      refine zs_aload_n (pc := 31) C dX9_valueOf_31 rfl ?_
      refine zs_getf (pc := 32) C dX9_valueOf_32 w_X9_69 f_10_38 (by decide) ?_
      refine zs_iload_n (pc := 35) C dX9_valueOf_35 rfl ?_
      refine zs_iald (r := 2075) (pc := 36) C dX9_valueOf_36 a_75 (by decide) (by omega) rfl (r_2075 _) (fun v36 e36 l36 u36 => ?_)
      refine zs_lald (r := 2079) (pc := 37) C dX9_valueOf_37 a_79 (by decide) (by omega) rfl (fun v37 e37 l37 u37 => ?_)
      exact zs_lret (pc := 38) C hr hlk dX9_valueOf_38 ⟨by repeat (first | exact zsm_rf | assumption | refine zsm_C (by decide) ?_ | refine zsm_I (by decide) ?_ | refine zsm_J ?_ | refine zsm_c (by assumption) (by decide) ?_), (by with_reducible repeat (first | exact RO_rf | assumption | refine RO_0 (by decide) ?_ | refine RO_n 20 (by decide) (by omega) ?_ | refine RO_n 5 (by decide) (by omega) ?_ | refine RO_n 60 (by decide) (by omega) ?_ | refine RO_n 1 (by decide) (by omega) ?_ | refine RO_J (by decide) ?_ | refine RO_c (by assumption) ?_)), trivial⟩
  · skip
    refine zs_aload_n (pc := 9) C dX9_valueOf_9 rfl ?_
    refine zs_getf (pc := 10) C dX9_valueOf_10 w_X9_69 f_10_38 (by decide) ?_
    refine zs_iload_n (pc := 13) C dX9_valueOf_13 rfl ?_
    refine zs_iald (r := 2075) (pc := 14) C dX9_valueOf_14 a_75 (by decide) (by omega) rfl (r_2075 _) (fun v14 e14 l14 u14 => ?_)
    refine zs_i2l (pc := 15) C dX9_valueOf_15 ?_
    exact zs_lret (pc := 16) C hr hlk dX9_valueOf_16 ⟨by repeat (first | exact zsm_rf | assumption | refine zsm_C (by decide) ?_ | refine zsm_I (by decide) ?_ | refine zsm_J ?_ | refine zsm_c (by assumption) (by decide) ?_), (by with_reducible repeat (first | exact RO_rf | assumption | refine RO_0 (by decide) ?_ | refine RO_n 20 (by decide) (by omega) ?_ | refine RO_n 5 (by decide) (by omega) ?_ | refine RO_n 60 (by decide) (by omega) ?_ | refine RO_n 1 (by decide) (by omega) ?_ | refine RO_J (by decide) ?_ | refine RO_c (by assumption) ?_)), trivial⟩

set_option maxHeartbeats 4000000 in
set_option maxRecDepth 100000 in
theorem c_X9_lawOfO {l : Launch} {Γ : zΓ} {G : zH} {w : Nat} {k : Int} (hX : zXs Γ) (hM : MI Γ w G)(hk : 0 ≤ k ∧ k < 7) (hl : G.1 2071 (Γ.2.1 w 34) k.toNat = 1) : zMet l Γ yX9_lawOf cX9_lawOf 3 (some .long) 2 [zr 10 w, zi k] G (zpj (fun x G' => zsm [1050] G G' ∧ RO G G' ∧ True)) := by
  have hK := MI_l hM k (by omega) (by omega) hl
  refine zMet_of RX9 hX (by decide) rfl (Nat.le_of_ble_eq_true rfl) ?_
  intro p e s m args below meth c C hr hlk
  show Z p l e (zrm 2) s m args below meth c Γ 3 0 0 (MQ below (zQc Γ (zpj (fun x G' => zsm [1050] G G' ∧ RO G G' ∧ True))) args s 0 0 (zA Γ)) 0 [some (zr 10 w), some (zi k), none] [] G
  refine zs_loc 1 rfl (fun ha1 hb1 => ?_)
  refine zs_aload_n (pc := 0) C dX9_lawOf_0 rfl ?_
  refine zs_iconst (pc := 1) C dX9_lawOf_1 (by decide) ?_
  refine zs_putz (r := 1050) (pc := 2) C dX9_lawOf_2 w_X9_357 f_10_50 rfl (r_1050 0) (by omega) (by omega) ?_
  refine zs_aload_n (pc := 5) C dX9_lawOf_5 rfl ?_
  refine zs_getf (pc := 6) C dX9_lawOf_6 w_X9_60 f_10_35 (by decide) ?_
  refine zs_iload_n (pc := 9) C dX9_lawOf_9 rfl ?_
  refine zs_iald (r := 2072) (pc := 10) C dX9_lawOf_10 a_72 (by decide) (by omega) rfl (r_2072 _) (fun v10 e10 l10 u10 => ?_)
  try simp only [zuI_1, zuI_2, zuJ_1, zuJ_2, zuJ_3, zuP_1, zuP_2, zuP_3, zuC_1, zuC_2, reduceIte, Nat.reduceEqDiff, false_and, and_false, true_and, and_true, and_self, or_true, true_or, or_false, false_or] at e10
  refine zs_istore_n (pc := 11) C dX9_lawOf_11 (by decide) ?_
  dsimp only [zset, zclr, znone]
  have L12 : ∀ (nn : Nat) (x2 : Int) (G1 : zH), (0 ≤ x2 ∧ x2 ≤ 64) → (zsm [1050] G G1) → (RO G G1) → (64 - x2).toNat < nn → Z p l e (zrm 2) s m args below meth c Γ 3 0 0 (MQ below (zQc Γ (zpj (fun x G' => zsm [1050] G G' ∧ RO G G' ∧ True))) args s 0 0 (zA Γ)) 12 [some (zr 10 w), some (zi k), some (zi x2)] [] G1 := by
    intro nn
    induction nn with
    | zero => intro x2 G1 h12_0 h12_1 h12_2 hm; exact absurd hm (Nat.not_lt_zero _)
    | succ nn ih12 =>
      intro x2 G1 h12_0 h12_1 h12_2 hm12
      have hG1 := zsm_at h12_1 2073 (Γ.2.1 w 36) k.toNat (by decide)
      refine zs_iload_n (pc := 12) C dX9_lawOf_12 rfl ?_
      refine zs_aload_n (pc := 13) C dX9_lawOf_13 rfl ?_
      refine zs_getf (pc := 14) C dX9_lawOf_14 w_X9_63 f_10_36 (by decide) ?_
      refine zs_iload_n (pc := 17) C dX9_lawOf_17 rfl ?_
      refine zs_iald (r := 2073) (pc := 18) C dX9_lawOf_18 a_73 (by decide) (by omega) rfl (r_2073 _) (fun v18 e18 l18 u18 => ?_)
      refine zs_icmp_ge (tgt := 39) (pc := 19) C dX9_lawOf_19 (by decide) (fun h19 => ?_) (fun h19 => ?_)
      · skip
        refine zs_aload_n (pc := 39) C dX9_lawOf_39 rfl ?_
        refine zs_getz (r := 1050) (pc := 40) C dX9_lawOf_40 w_X9_357 f_10_50 rfl (r_1050 0) (fun v40 e40 l40 u40 => ?_)
        refine zs_if_eq (tgt := 50) (pc := 43) C dX9_lawOf_43 (by decide) (fun h43 => ?_) (fun h43 => ?_)
        · skip
          refine zs_aload_n (pc := 50) C dX9_lawOf_50 rfl ?_
          refine zs_getf (pc := 51) C dX9_lawOf_51 w_X9_85 f_10_49 (by decide) ?_
          refine zs_aload_n (pc := 54) C dX9_lawOf_54 rfl ?_
          refine zs_getf (pc := 55) C dX9_lawOf_55 w_X9_63 f_10_36 (by decide) ?_
          refine zs_iload_n (pc := 58) C dX9_lawOf_58 rfl ?_
          refine zs_iald (r := 2073) (pc := 59) C dX9_lawOf_59 a_73 (by decide) (by omega) rfl (r_2073 _) (fun v59 e59 l59 u59 => ?_)
          refine zs_iconst (pc := 60) C dX9_lawOf_60 (by decide) ?_
          first | refine zs_isub (pc := 61) C dX9_lawOf_61 (by omega) ?_ | refine zs_isubF (pc := 61) C dX9_lawOf_61 (fun z61 hz611 hz612 => ?_)
          refine zs_lald (r := 2080) (pc := 62) C dX9_lawOf_62 a_80 (by decide) (by omega) rfl (fun v62 e62 l62 u62 => ?_)
          exact zs_lret (pc := 63) C hr hlk dX9_lawOf_63 ⟨by repeat (first | exact zsm_rf | assumption | refine zsm_C (by decide) ?_ | refine zsm_I (by decide) ?_ | refine zsm_J ?_ | refine zsm_c (by assumption) (by decide) ?_), (by with_reducible repeat (first | exact RO_rf | assumption | refine RO_0 (by decide) ?_ | refine RO_n 20 (by decide) (by omega) ?_ | refine RO_n 5 (by decide) (by omega) ?_ | refine RO_n 60 (by decide) (by omega) ?_ | refine RO_n 1 (by decide) (by omega) ?_ | refine RO_J (by decide) ?_ | refine RO_c (by assumption) ?_)), trivial⟩
        · skip
          refine zs_lconst (n := 0) (pc := 46) C dX9_lawOf_46 rfl (by decide) ?_
          refine zs_goto (tgt := 63) (pc := 47) C dX9_lawOf_47 (by decide) ?_
          exact zs_lret (pc := 63) C hr hlk dX9_lawOf_63 ⟨by repeat (first | exact zsm_rf | assumption | refine zsm_C (by decide) ?_ | refine zsm_I (by decide) ?_ | refine zsm_J ?_ | refine zsm_c (by assumption) (by decide) ?_), (by with_reducible repeat (first | exact RO_rf | assumption | refine RO_0 (by decide) ?_ | refine RO_n 20 (by decide) (by omega) ?_ | refine RO_n 5 (by decide) (by omega) ?_ | refine RO_n 60 (by decide) (by omega) ?_ | refine RO_n 1 (by decide) (by omega) ?_ | refine RO_J (by decide) ?_ | refine RO_c (by assumption) ?_)), trivial⟩
      · skip
        refine zs_aload_n (pc := 22) C dX9_lawOf_22 rfl ?_
        refine zs_getf (pc := 23) C dX9_lawOf_23 w_X9_85 f_10_49 (by decide) ?_
        refine zs_iload_n (pc := 26) C dX9_lawOf_26 rfl ?_
        refine zs_aload_n (pc := 27) C dX9_lawOf_27 rfl ?_
        refine zs_iload_n (pc := 28) C dX9_lawOf_28 rfl ?_
        refine zVj1 (pc := 29) C dX9_lawOf_29 v_X9_414 (c_X9_valueOfO hX (by repeat (first | assumption | refine MI_I (by decide) ?_ | refine MI_J ?_ | refine MI_sm (by assumption) (by decide) ?_ | refine MI_sn (by assumption) (by decide) ?_)) (by omega)) (by decide) (by decide) ⟨Nat.zero_le _, Nat.zero_le _⟩ (Nat.le_of_ble_eq_true rfl) (fun x29 G29 l29 u29 hp29 => ?_)
        obtain ⟨hz29, lo29, hq29⟩ := hp29
        refine zs_last (r := 2080) (pc := 32) C dX9_lawOf_32 a_80 (by decide) (by omega) rfl ?_
        first | refine zs_iinc (pc := 33) C dX9_lawOf_33 rfl (by decide) (by omega) ?_ | refine zs_iincF (pc := 33) C dX9_lawOf_33 rfl (by decide) (fun z33 hz331 hz332 => ?_)
        dsimp only [zset, zclr, znone]
        refine zs_goto (tgt := 12) (pc := 36) C dX9_lawOf_36 (by decide) ?_
        exact zs_wk (ih12 _ _ (by first | omega | (simp only [zuI_1, zuI_2, zuJ_1, zuJ_2, zuJ_3, zuP_1, zuP_2, zuP_3, zuC_1, zuC_2, reduceIte, Nat.reduceEqDiff, false_and, and_false, true_and, and_true, and_self, or_true, true_or, or_false, false_or]; omega)) (by repeat (first | exact zsm_rf | assumption | refine zsm_C (by decide) ?_ | refine zsm_I (by decide) ?_ | refine zsm_J ?_ | refine zsm_c (by assumption) (by decide) ?_)) (by with_reducible repeat (first | exact RO_rf | assumption | refine RO_0 (by decide) ?_ | refine RO_n 20 (by decide) (by omega) ?_ | refine RO_n 5 (by decide) (by omega) ?_ | refine RO_n 60 (by decide) (by omega) ?_ | refine RO_n 1 (by decide) (by omega) ?_ | refine RO_J (by decide) ?_ | refine RO_c (by assumption) ?_)) (by first | omega | (simp only [zuI_1, zuI_2, zuJ_1, zuJ_2, zuJ_3, zuP_1, zuP_2, zuP_3, zuC_1, zuC_2, reduceIte, Nat.reduceEqDiff, false_and, and_false, true_and, and_true, and_self, or_true, true_or, or_false, false_or]; omega))) (zwk_s rfl (zwk_s rfl (zwk_s rfl zwk_0)))
  exact zs_wk (L12 _ _ _ (by first | omega | (simp only [zuI_1, zuI_2, zuJ_1, zuJ_2, zuJ_3, zuP_1, zuP_2, zuP_3, zuC_1, zuC_2, reduceIte, Nat.reduceEqDiff, false_and, and_false, true_and, and_true, and_self, or_true, true_or, or_false, false_or]; omega)) (by repeat (first | exact zsm_rf | assumption | refine zsm_C (by decide) ?_ | refine zsm_I (by decide) ?_ | refine zsm_J ?_ | refine zsm_c (by assumption) (by decide) ?_)) (by with_reducible repeat (first | exact RO_rf | assumption | refine RO_0 (by decide) ?_ | refine RO_n 20 (by decide) (by omega) ?_ | refine RO_n 5 (by decide) (by omega) ?_ | refine RO_n 60 (by decide) (by omega) ?_ | refine RO_n 1 (by decide) (by omega) ?_ | refine RO_J (by decide) ?_ | refine RO_c (by assumption) ?_)) (Nat.lt_succ_self _)) (zwk_s rfl (zwk_s rfl (zwk_s rfl zwk_0)))

set_option maxHeartbeats 4000000 in
set_option maxRecDepth 100000 in
theorem c_X9_boundLawO {l : Launch} {Γ : zΓ} {G : zH} {w : Nat} {k a b : Int} (hX : zXs Γ) (hM : MI Γ w G)(hk : 0 ≤ k ∧ k < 7) : zMet l Γ yX9_boundLaw cX9_boundLaw 6 (some .int) 3 [zr 10 w, zi k, zi a, zi b] G (zpi (fun x G' => zsm [1050] G G' ∧ RO G G' ∧ True)) := by
  refine zMet_of RX9 hX (by decide) rfl (Nat.le_of_ble_eq_true rfl) ?_
  intro p e s m args below meth c C hr hlk
  show Z p l e (zrm 3) s m args below meth c Γ 6 0 0 (MQ below (zQc Γ (zpi (fun x G' => zsm [1050] G G' ∧ RO G G' ∧ True))) args s 0 0 (zA Γ)) 0 [some (zr 10 w), some (zi k), some (zi a), some (zi b), none, none] [] G
  refine zs_loc 1 rfl (fun ha1 hb1 => ?_)
  refine zs_loc 2 rfl (fun ha2 hb2 => ?_)
  refine zs_loc 3 rfl (fun ha3 hb3 => ?_)
  refine zs_aload_n (pc := 0) C dX9_boundLaw_0 rfl ?_
  refine zs_getf (pc := 1) C dX9_boundLaw_1 w_X9_57 f_10_34 (by decide) ?_
  refine zs_iload_n (pc := 4) C dX9_boundLaw_4 rfl ?_
  refine zs_zald (r := 2071) (pc := 5) C dX9_boundLaw_5 a_71 (by decide) (by omega) rfl (r_2071 _) (fun v5 e5 l5 u5 => ?_)
  refine zs_if_ne (tgt := 11) (pc := 6) C dX9_boundLaw_6 (by decide) (fun h6 => ?_) (fun h6 => ?_)
  · skip
    refine zs_aload_n (pc := 11) C dX9_boundLaw_11 rfl ?_
    refine zs_iload_n (pc := 12) C dX9_boundLaw_12 rfl ?_
    refine zVj1 (pc := 13) C dX9_boundLaw_13 v_X9_418 (c_X9_lawOfO hX (by repeat (first | assumption | refine MI_I (by decide) ?_ | refine MI_J ?_ | refine MI_sm (by assumption) (by decide) ?_ | refine MI_sn (by assumption) (by decide) ?_)) (by omega) (by omega)) (by decide) (by decide) ⟨Nat.zero_le _, Nat.zero_le _⟩ (Nat.le_of_ble_eq_true rfl) (fun x13 G13 l13 u13 hp13 => ?_)
    obtain ⟨hz13, lo13, hq13⟩ := hp13
    refine zs_lstore (pc := 16) C dX9_boundLaw_16 (by decide) ?_
    dsimp only [zset, zclr, znone]
    refine zs_aload_n (pc := 18) C dX9_boundLaw_18 rfl ?_
    refine zs_getz (r := 1050) (pc := 19) C dX9_boundLaw_19 w_X9_357 f_10_50 rfl (r_1050 0) (fun v19 e19 l19 u19 => ?_)
    refine zs_if_eq (tgt := 29) (pc := 22) C dX9_boundLaw_22 (by decide) (fun h22 => ?_) (fun h22 => ?_)
    · skip
      refine zs_lload (pc := 29) C dX9_boundLaw_29 rfl ?_
      refine zs_lconst (n := 0) (pc := 31) C dX9_boundLaw_31 rfl (by decide) ?_
      refine zs_lcmp (pc := 32) C dX9_boundLaw_32 (fun z32 hz32 => ?_)
      refine zs_if_ge (tgt := 40) (pc := 33) C dX9_boundLaw_33 (by decide) (fun h33 => ?_) (fun h33 => ?_)
      · skip
        refine zs_lload (pc := 40) C dX9_boundLaw_40 rfl ?_
        refine zs_iload_n (pc := 42) C dX9_boundLaw_42 rfl ?_
        refine zs_i2l (pc := 43) C dX9_boundLaw_43 ?_
        refine zs_lcmp (pc := 44) C dX9_boundLaw_44 (fun z44 hz44 => ?_)
        refine zs_if_le (tgt := 52) (pc := 45) C dX9_boundLaw_45 (by decide) (fun h45 => ?_) (fun h45 => ?_)
        · skip
          refine zs_lload (pc := 52) C dX9_boundLaw_52 rfl ?_
          first | refine zs_l2i (pc := 54) C dX9_boundLaw_54 (by omega) ?_ | refine zs_l2iF (pc := 54) C dX9_boundLaw_54 (fun z54 hz541 hz542 => ?_)
          exact zs_iret (pc := 55) C hr hlk dX9_boundLaw_55 ⟨by repeat (first | exact zsm_rf | assumption | refine zsm_C (by decide) ?_ | refine zsm_I (by decide) ?_ | refine zsm_J ?_ | refine zsm_c (by assumption) (by decide) ?_), (by with_reducible repeat (first | exact RO_rf | assumption | refine RO_0 (by decide) ?_ | refine RO_n 20 (by decide) (by omega) ?_ | refine RO_n 5 (by decide) (by omega) ?_ | refine RO_n 60 (by decide) (by omega) ?_ | refine RO_n 1 (by decide) (by omega) ?_ | refine RO_J (by decide) ?_ | refine RO_c (by assumption) ?_)), trivial⟩
        · skip
          refine zs_iload_n (pc := 48) C dX9_boundLaw_48 rfl ?_
          refine zs_goto (tgt := 55) (pc := 49) C dX9_boundLaw_49 (by decide) ?_
          exact zs_iret (pc := 55) C hr hlk dX9_boundLaw_55 ⟨by repeat (first | exact zsm_rf | assumption | refine zsm_C (by decide) ?_ | refine zsm_I (by decide) ?_ | refine zsm_J ?_ | refine zsm_c (by assumption) (by decide) ?_), (by with_reducible repeat (first | exact RO_rf | assumption | refine RO_0 (by decide) ?_ | refine RO_n 20 (by decide) (by omega) ?_ | refine RO_n 5 (by decide) (by omega) ?_ | refine RO_n 60 (by decide) (by omega) ?_ | refine RO_n 1 (by decide) (by omega) ?_ | refine RO_J (by decide) ?_ | refine RO_c (by assumption) ?_)), trivial⟩
      · skip
        refine zs_iconst (pc := 36) C dX9_boundLaw_36 (by decide) ?_
        refine zs_goto (tgt := 55) (pc := 37) C dX9_boundLaw_37 (by decide) ?_
        exact zs_iret (pc := 55) C hr hlk dX9_boundLaw_55 ⟨by repeat (first | exact zsm_rf | assumption | refine zsm_C (by decide) ?_ | refine zsm_I (by decide) ?_ | refine zsm_J ?_ | refine zsm_c (by assumption) (by decide) ?_), (by with_reducible repeat (first | exact RO_rf | assumption | refine RO_0 (by decide) ?_ | refine RO_n 20 (by decide) (by omega) ?_ | refine RO_n 5 (by decide) (by omega) ?_ | refine RO_n 60 (by decide) (by omega) ?_ | refine RO_n 1 (by decide) (by omega) ?_ | refine RO_J (by decide) ?_ | refine RO_c (by assumption) ?_)), trivial⟩
    · skip
      refine zs_iload_n (pc := 25) C dX9_boundLaw_25 rfl ?_
      refine zs_goto (tgt := 55) (pc := 26) C dX9_boundLaw_26 (by decide) ?_
      exact zs_iret (pc := 55) C hr hlk dX9_boundLaw_55 ⟨by repeat (first | exact zsm_rf | assumption | refine zsm_C (by decide) ?_ | refine zsm_I (by decide) ?_ | refine zsm_J ?_ | refine zsm_c (by assumption) (by decide) ?_), (by with_reducible repeat (first | exact RO_rf | assumption | refine RO_0 (by decide) ?_ | refine RO_n 20 (by decide) (by omega) ?_ | refine RO_n 5 (by decide) (by omega) ?_ | refine RO_n 60 (by decide) (by omega) ?_ | refine RO_n 1 (by decide) (by omega) ?_ | refine RO_J (by decide) ?_ | refine RO_c (by assumption) ?_)), trivial⟩
  · skip
    refine zs_iload_n (pc := 9) C dX9_boundLaw_9 rfl ?_
    exact zs_iret (pc := 10) C hr hlk dX9_boundLaw_10 ⟨by repeat (first | exact zsm_rf | assumption | refine zsm_C (by decide) ?_ | refine zsm_I (by decide) ?_ | refine zsm_J ?_ | refine zsm_c (by assumption) (by decide) ?_), (by with_reducible repeat (first | exact RO_rf | assumption | refine RO_0 (by decide) ?_ | refine RO_n 20 (by decide) (by omega) ?_ | refine RO_n 5 (by decide) (by omega) ?_ | refine RO_n 60 (by decide) (by omega) ?_ | refine RO_n 1 (by decide) (by omega) ?_ | refine RO_J (by decide) ?_ | refine RO_c (by assumption) ?_)), trivial⟩

set_option maxHeartbeats 4000000 in
set_option maxRecDepth 100000 in
theorem c_X9_fineOfO {l : Launch} {Γ : zΓ} {G : zH} {w : Nat} {b0 p0 s0 : Int} (hX : zXs Γ) (hM : MI Γ w G)(hb : b0 = 0 ∨ b0 = 1)(hp : 0 ≤ p0 ∧ p0 ≤ 4)(hs : 0 ≤ s0 ∧ s0 ≤ 3) : zMet l Γ yX9_fineOf cX9_fineOf 4 (some .int) 4 [zr 10 w, zi b0, zi p0, zi s0] G (zpi (fun x G' => zsm [1050] G G' ∧ RO G G' ∧ True)) := by
  refine zMet_of RX9 hX (by decide) rfl (Nat.le_of_ble_eq_true rfl) ?_
  intro p e s m args below meth c C hr hlk
  show Z p l e (zrm 4) s m args below meth c Γ 4 0 0 (MQ below (zQc Γ (zpi (fun x G' => zsm [1050] G G' ∧ RO G G' ∧ True))) args s 0 0 (zA Γ)) 0 [some (zr 10 w), some (zi b0), some (zi p0), some (zi s0)] [] G
  refine zs_loc 1 rfl (fun ha1 hb1 => ?_)
  refine zs_loc 2 rfl (fun ha2 hb2 => ?_)
  refine zs_loc 3 rfl (fun ha3 hb3 => ?_)
  refine zs_aload_n (pc := 0) C dX9_fineOf_0 rfl ?_
  refine zs_iload_n (pc := 1) C dX9_fineOf_1 rfl ?_
  refine zs_iload_n (pc := 2) C dX9_fineOf_2 rfl ?_
  refine zs_iload_n (pc := 3) C dX9_fineOf_3 rfl ?_
  refine zVv3 (pc := 4) C dX9_fineOf_4 v_X9_421 (c_X9_layOfO hX (by omega) (by omega) (by omega)) (by decide) (by decide) ⟨Nat.zero_le _, Nat.zero_le _⟩ (Nat.le_of_ble_eq_true rfl) (fun G4 hp4 => ?_)
  obtain ⟨hz4, lo4, hq4⟩ := hp4
  refine zs_aload_n (pc := 7) C dX9_fineOf_7 rfl ?_
  refine zs_iconst (pc := 8) C dX9_fineOf_8 (by decide) ?_
  refine zs_aload_n (pc := 9) C dX9_fineOf_9 rfl ?_
  refine zs_getf (pc := 10) C dX9_fineOf_10 w_X9_30 f_10_25 (by decide) ?_
  refine zs_iload_n (pc := 13) C dX9_fineOf_13 rfl ?_
  refine zs_iald (r := 2062) (pc := 14) C dX9_fineOf_14 a_62 (by decide) (by omega) rfl (r_2062 _) (fun v14 e14 l14 u14 => ?_)
  refine zs_sipush (pc := 15) C dX9_fineOf_15 (by decide) (by decide) ?_
  refine zVi3 (pc := 18) C dX9_fineOf_18 v_X9_424 (c_X9_boundLawO hX (by repeat (first | assumption | refine MI_I (by decide) ?_ | refine MI_J ?_ | refine MI_sm (by assumption) (by decide) ?_ | refine MI_sn (by assumption) (by decide) ?_)) (by omega)) (by decide) (by decide) ⟨Nat.zero_le _, Nat.zero_le _⟩ (Nat.le_of_ble_eq_true rfl) (fun x18 G18 l18 u18 hp18 => ?_)
  obtain ⟨hz18, lo18, hq18⟩ := hp18
  exact zs_iret (pc := 21) C hr hlk dX9_fineOf_21 ⟨by repeat (first | exact zsm_rf | assumption | refine zsm_C (by decide) ?_ | refine zsm_I (by decide) ?_ | refine zsm_J ?_ | refine zsm_c (by assumption) (by decide) ?_), (by with_reducible repeat (first | exact RO_rf | assumption | refine RO_0 (by decide) ?_ | refine RO_n 20 (by decide) (by omega) ?_ | refine RO_n 5 (by decide) (by omega) ?_ | refine RO_n 60 (by decide) (by omega) ?_ | refine RO_n 1 (by decide) (by omega) ?_ | refine RO_J (by decide) ?_ | refine RO_c (by assumption) ?_)), trivial⟩

set_option maxHeartbeats 4000000 in
set_option maxRecDepth 100000 in
theorem c_X9_failsO {l : Launch} {Γ : zΓ} {G : zH} {w : Nat} {k : Int} (hX : zXs Γ)  : zMet l Γ yX9_fails cX9_fails 2 (some .int) 0 [zr 10 w, zi k] G (zpi (fun x G' => zsm [1002] G G' ∧ RO G G' ∧ True)) := by
  refine zMet_of RX9 hX (by decide) rfl (Nat.le_of_ble_eq_true rfl) ?_
  intro p e s m args below meth c C hr hlk
  show Z p l e (zrm 0) s m args below meth c Γ 2 0 0 (MQ below (zQc Γ (zpi (fun x G' => zsm [1002] G G' ∧ RO G G' ∧ True))) args s 0 0 (zA Γ)) 0 [some (zr 10 w), some (zi k)] [] G
  refine zs_loc 1 rfl (fun ha1 hb1 => ?_)
  refine zs_aload_n (pc := 0) C dX9_fails_0 rfl ?_
  refine zs_iload_n (pc := 1) C dX9_fails_1 rfl ?_
  refine zs_puti (r := 1002) (pc := 2) C dX9_fails_2 w_X9_178 f_10_2 rfl (r_1002 0) (by omega) ?_
  refine zs_iconst (pc := 5) C dX9_fails_5 (by decide) ?_
  exact zs_iret (pc := 6) C hr hlk dX9_fails_6 ⟨by repeat (first | exact zsm_rf | assumption | refine zsm_C (by decide) ?_ | refine zsm_I (by decide) ?_ | refine zsm_J ?_ | refine zsm_c (by assumption) (by decide) ?_), (by with_reducible repeat (first | exact RO_rf | assumption | refine RO_0 (by decide) ?_ | refine RO_n 20 (by decide) (by omega) ?_ | refine RO_n 5 (by decide) (by omega) ?_ | refine RO_n 60 (by decide) (by omega) ?_ | refine RO_n 1 (by decide) (by omega) ?_ | refine RO_J (by decide) ?_ | refine RO_c (by assumption) ?_)), trivial⟩

set_option maxHeartbeats 4000000 in
set_option maxRecDepth 100000 in
theorem c_X9_layTriedO {l : Launch} {Γ : zΓ} {G : zH} {w : Nat}  (hX : zXs Γ)  : zMet l Γ yX9_layTried cX9_layTried 2 none 0 [zr 10 w] G (zpv (fun G' => zsm [2081, 2082, 2083, 2084, 2085, 2086, 2087, 2088, 2089, 2090, 2093, 2094, 1072, 1073, 1074] G G' ∧ RO G G' ∧ True)) := by
  refine zMet_of RX9 hX (by decide) rfl (Nat.le_of_ble_eq_true rfl) ?_
  intro p e s m args below meth c C hr hlk
  show Z p l e (zrm 0) s m args below meth c Γ 2 0 0 (MQ below (zQc Γ (zpv (fun G' => zsm [2081, 2082, 2083, 2084, 2085, 2086, 2087, 2088, 2089, 2090, 2093, 2094, 1072, 1073, 1074] G G' ∧ RO G G' ∧ True))) args s 0 0 (zA Γ)) 0 [some (zr 10 w), none] [] G
  refine zs_iconst (pc := 0) C dX9_layTried_0 (by decide) ?_
  refine zs_istore_n (pc := 1) C dX9_layTried_1 (by decide) ?_
  dsimp only [zset, zclr, znone]
  have L2 : ∀ (nn : Nat) (x1 : Int) (G1 : zH), (0 ≤ x1 ∧ x1 ≤ 20) → (zsm [2081, 2082, 2083, 2084, 2085, 2086, 2087, 2088, 2089, 2090, 2093, 2094, 1072, 1073, 1074] G G1) → (RO G G1) → (20 - x1).toNat < nn → Z p l e (zrm 0) s m args below meth c Γ 2 0 0 (MQ below (zQc Γ (zpv (fun G' => zsm [2081, 2082, 2083, 2084, 2085, 2086, 2087, 2088, 2089, 2090, 2093, 2094, 1072, 1073, 1074] G G' ∧ RO G G' ∧ True))) args s 0 0 (zA Γ)) 2 [some (zr 10 w), some (zi x1)] [] G1 := by
    intro nn
    induction nn with
    | zero => intro x1 G1 h2_0 h2_1 h2_2 hm; exact absurd hm (Nat.not_lt_zero _)
    | succ nn ih2 =>
      intro x1 G1 h2_0 h2_1 h2_2 hm2
      refine zs_iload_n (pc := 2) C dX9_layTried_2 rfl ?_
      refine zs_bipush (pc := 3) C dX9_layTried_3 (by decide) (by decide) ?_
      refine zs_icmp_ge (tgt := 44) (pc := 5) C dX9_layTried_5 (by decide) (fun h5 => ?_) (fun h5 => ?_)
      · skip
        refine zs_iconst (pc := 44) C dX9_layTried_44 (by decide) ?_
        refine zs_istore_n (pc := 45) C dX9_layTried_45 (by decide) ?_
        dsimp only [zset, zclr, znone]
        have L46 : ∀ (nn : Nat) (x1 : Int) (G2 : zH), (0 ≤ x1 ∧ x1 ≤ 5) → (zsm [2081, 2082, 2083, 2084, 2085, 2086, 2087, 2088, 2089, 2090, 2093, 2094, 1072, 1073, 1074] G G2) → (RO G G2) → (5 - x1).toNat < nn → Z p l e (zrm 0) s m args below meth c Γ 2 0 0 (MQ below (zQc Γ (zpv (fun G' => zsm [2081, 2082, 2083, 2084, 2085, 2086, 2087, 2088, 2089, 2090, 2093, 2094, 1072, 1073, 1074] G G' ∧ RO G G' ∧ True))) args s 0 0 (zA Γ)) 46 [some (zr 10 w), some (zi x1)] [] G2 := by
          intro nn
          induction nn with
          | zero => intro x1 G2 h46_0 h46_1 h46_2 hm; exact absurd hm (Nat.not_lt_zero _)
          | succ nn ih46 =>
            intro x1 G2 h46_0 h46_1 h46_2 hm46
            refine zs_iload_n (pc := 46) C dX9_layTried_46 rfl ?_
            refine zs_iconst (pc := 47) C dX9_layTried_47 (by decide) ?_
            refine zs_icmp_ge (tgt := 113) (pc := 48) C dX9_layTried_48 (by decide) (fun h48 => ?_) (fun h48 => ?_)
            · skip
              refine zs_aload_n (pc := 113) C dX9_layTried_113 rfl ?_
              refine zs_getf (pc := 114) C dX9_layTried_114 w_X9_106 f_10_57 (by decide) ?_
              refine zs_iconst (pc := 117) C dX9_layTried_117 (by decide) ?_
              refine zs_aload_n (pc := 118) C dX9_layTried_118 rfl ?_
              refine zs_getf (pc := 119) C dX9_layTried_119 w_X9_106 f_10_57 (by decide) ?_
              refine zs_iconst (pc := 122) C dX9_layTried_122 (by decide) ?_
              refine zs_iald (r := 2087) (pc := 123) C dX9_layTried_123 a_87 (by decide) (by omega) rfl (r_2087 _) (fun v123 e123 l123 u123 => ?_)
              refine zs_iast (r := 2087) (pc := 124) C dX9_layTried_124 a_87 (by decide) (by omega) rfl (r_2087 _) (by omega) ?_
              refine zs_aload_n (pc := 125) C dX9_layTried_125 rfl ?_
              refine zs_getf (pc := 126) C dX9_layTried_126 w_X9_109 f_10_58 (by decide) ?_
              refine zs_iconst (pc := 129) C dX9_layTried_129 (by decide) ?_
              refine zs_aload_n (pc := 130) C dX9_layTried_130 rfl ?_
              refine zs_getf (pc := 131) C dX9_layTried_131 w_X9_109 f_10_58 (by decide) ?_
              refine zs_iconst (pc := 134) C dX9_layTried_134 (by decide) ?_
              refine zs_iald (r := 2088) (pc := 135) C dX9_layTried_135 a_88 (by decide) (by omega) rfl (r_2088 _) (fun v135 e135 l135 u135 => ?_)
              try simp only [zuI_1, zuI_2, zuJ_1, zuJ_2, zuJ_3, zuP_1, zuP_2, zuP_3, zuC_1, zuC_2, reduceIte, Nat.reduceEqDiff, false_and, and_false, true_and, and_true, and_self, or_true, true_or, or_false, false_or] at e135
              refine zs_iast (r := 2088) (pc := 136) C dX9_layTried_136 a_88 (by decide) (by omega) rfl (r_2088 _) (by omega) ?_
              refine zs_aload_n (pc := 137) C dX9_layTried_137 rfl ?_
              refine zs_getf (pc := 138) C dX9_layTried_138 w_X9_112 f_10_59 (by decide) ?_
              refine zs_iconst (pc := 141) C dX9_layTried_141 (by decide) ?_
              refine zs_aload_n (pc := 142) C dX9_layTried_142 rfl ?_
              refine zs_getf (pc := 143) C dX9_layTried_143 w_X9_112 f_10_59 (by decide) ?_
              refine zs_iconst (pc := 146) C dX9_layTried_146 (by decide) ?_
              refine zs_iald (r := 2089) (pc := 147) C dX9_layTried_147 a_89 (by decide) (by omega) rfl (r_2089 _) (fun v147 e147 l147 u147 => ?_)
              try simp only [zuI_1, zuI_2, zuJ_1, zuJ_2, zuJ_3, zuP_1, zuP_2, zuP_3, zuC_1, zuC_2, reduceIte, Nat.reduceEqDiff, false_and, and_false, true_and, and_true, and_self, or_true, true_or, or_false, false_or] at e147
              refine zs_iast (r := 2089) (pc := 148) C dX9_layTried_148 a_89 (by decide) (by omega) rfl (r_2089 _) (by omega) ?_
              refine zs_aload_n (pc := 149) C dX9_layTried_149 rfl ?_
              refine zs_getf (pc := 150) C dX9_layTried_150 w_X9_115 f_10_60 (by decide) ?_
              refine zs_iconst (pc := 153) C dX9_layTried_153 (by decide) ?_
              refine zs_aload_n (pc := 154) C dX9_layTried_154 rfl ?_
              refine zs_getf (pc := 155) C dX9_layTried_155 w_X9_115 f_10_60 (by decide) ?_
              refine zs_iconst (pc := 158) C dX9_layTried_158 (by decide) ?_
              refine zs_iald (r := 2090) (pc := 159) C dX9_layTried_159 a_90 (by decide) (by omega) rfl (r_2090 _) (fun v159 e159 l159 u159 => ?_)
              try simp only [zuI_1, zuI_2, zuJ_1, zuJ_2, zuJ_3, zuP_1, zuP_2, zuP_3, zuC_1, zuC_2, reduceIte, Nat.reduceEqDiff, false_and, and_false, true_and, and_true, and_self, or_true, true_or, or_false, false_or] at e159
              refine zs_iast (r := 2090) (pc := 160) C dX9_layTried_160 a_90 (by decide) (by omega) rfl (r_2090 _) (by omega) ?_
              refine zs_iconst (pc := 161) C dX9_layTried_161 (by decide) ?_
              refine zs_istore_n (pc := 162) C dX9_layTried_162 (by decide) ?_
              dsimp only [zset, zclr, znone]
              have L163 : ∀ (nn : Nat) (x1 : Int) (G3 : zH), (0 ≤ x1 ∧ x1 ≤ 60) → (zsm [2081, 2082, 2083, 2084, 2085, 2086, 2087, 2088, 2089, 2090, 2093, 2094, 1072, 1073, 1074] G G3) → (RO G G3) → (60 - x1).toNat < nn → Z p l e (zrm 0) s m args below meth c Γ 2 0 0 (MQ below (zQc Γ (zpv (fun G' => zsm [2081, 2082, 2083, 2084, 2085, 2086, 2087, 2088, 2089, 2090, 2093, 2094, 1072, 1073, 1074] G G' ∧ RO G G' ∧ True))) args s 0 0 (zA Γ)) 163 [some (zr 10 w), some (zi x1)] [] G3 := by
                intro nn
                induction nn with
                | zero => intro x1 G3 h163_0 h163_1 h163_2 hm; exact absurd hm (Nat.not_lt_zero _)
                | succ nn ih163 =>
                  intro x1 G3 h163_0 h163_1 h163_2 hm163
                  refine zs_iload_n (pc := 163) C dX9_layTried_163 rfl ?_
                  refine zs_aload_n (pc := 164) C dX9_layTried_164 rfl ?_
                  refine zs_getf (pc := 165) C dX9_layTried_165 w_X9_106 f_10_57 (by decide) ?_
                  refine zs_iconst (pc := 168) C dX9_layTried_168 (by decide) ?_
                  refine zs_iald (r := 2087) (pc := 169) C dX9_layTried_169 a_87 (by decide) (by omega) rfl (r_2087 _) (fun v169 e169 l169 u169 => ?_)
                  refine zs_icmp_ge (tgt := 209) (pc := 170) C dX9_layTried_170 (by decide) (fun h170 => ?_) (fun h170 => ?_)
                  · skip
                    refine zs_aload_n (pc := 209) C dX9_layTried_209 rfl ?_
                    refine zs_iconst (pc := 210) C dX9_layTried_210 (by decide) ?_
                    refine zs_puti (r := 1073) (pc := 211) C dX9_layTried_211 w_X9_388 f_10_73 rfl (r_1073 0) (by omega) ?_
                    refine zs_aload_n (pc := 214) C dX9_layTried_214 rfl ?_
                    refine zs_iconst (pc := 215) C dX9_layTried_215 (by decide) ?_
                    refine zs_puti (r := 1072) (pc := 216) C dX9_layTried_216 w_X9_391 f_10_72 rfl (r_1072 0) (by omega) ?_
                    refine zs_aload_n (pc := 219) C dX9_layTried_219 rfl ?_
                    refine zs_iconst (pc := 220) C dX9_layTried_220 (by decide) ?_
                    refine zs_puti (r := 1074) (pc := 221) C dX9_layTried_221 w_X9_148 f_10_74 rfl (r_1074 0) (by omega) ?_
                    exact zs_vret (pc := 224) C hr hlk dX9_layTried_224 ⟨by repeat (first | exact zsm_rf | assumption | refine zsm_C (by decide) ?_ | refine zsm_I (by decide) ?_ | refine zsm_J ?_ | refine zsm_c (by assumption) (by decide) ?_), (by with_reducible repeat (first | exact RO_rf | assumption | refine RO_0 (by decide) ?_ | refine RO_n 20 (by decide) (by omega) ?_ | refine RO_n 5 (by decide) (by omega) ?_ | refine RO_n 60 (by decide) (by omega) ?_ | refine RO_n 1 (by decide) (by omega) ?_ | refine RO_J (by decide) ?_ | refine RO_c (by assumption) ?_)), trivial⟩
                  · skip
                    refine zs_aload_n (pc := 173) C dX9_layTried_173 rfl ?_
                    refine zs_getf (pc := 174) C dX9_layTried_174 w_X9_124 f_10_64 (by decide) ?_
                    refine zs_bipush (pc := 177) C dX9_layTried_177 (by decide) (by decide) ?_
                    refine zs_iload_n (pc := 179) C dX9_layTried_179 rfl ?_
                    first | refine zs_iadd (pc := 180) C dX9_layTried_180 (by omega) ?_ | refine zs_iaddF (pc := 180) C dX9_layTried_180 (fun z180 hz1801 hz1802 => ?_)
                    refine zs_aload_n (pc := 181) C dX9_layTried_181 rfl ?_
                    refine zs_getf (pc := 182) C dX9_layTried_182 w_X9_124 f_10_64 (by decide) ?_
                    refine zs_iload_n (pc := 185) C dX9_layTried_185 rfl ?_
                    refine zs_iald (r := 2093) (pc := 186) C dX9_layTried_186 a_93 (by decide) (by omega) rfl (r_2093 _) (fun v186 e186 l186 u186 => ?_)
                    refine zs_iast (r := 2093) (pc := 187) C dX9_layTried_187 a_93 (by decide) (by omega) rfl (r_2093 _) (by omega) ?_
                    refine zs_aload_n (pc := 188) C dX9_layTried_188 rfl ?_
                    refine zs_getf (pc := 189) C dX9_layTried_189 w_X9_127 f_10_65 (by decide) ?_
                    refine zs_bipush (pc := 192) C dX9_layTried_192 (by decide) (by decide) ?_
                    refine zs_iload_n (pc := 194) C dX9_layTried_194 rfl ?_
                    first | refine zs_iadd (pc := 195) C dX9_layTried_195 (by omega) ?_ | refine zs_iaddF (pc := 195) C dX9_layTried_195 (fun z195 hz1951 hz1952 => ?_)
                    refine zs_aload_n (pc := 196) C dX9_layTried_196 rfl ?_
                    refine zs_getf (pc := 197) C dX9_layTried_197 w_X9_127 f_10_65 (by decide) ?_
                    refine zs_iload_n (pc := 200) C dX9_layTried_200 rfl ?_
                    refine zs_iald (r := 2094) (pc := 201) C dX9_layTried_201 a_94 (by decide) (by omega) rfl (r_2094 _) (fun v201 e201 l201 u201 => ?_)
                    try simp only [zuI_1, zuI_2, zuJ_1, zuJ_2, zuJ_3, zuP_1, zuP_2, zuP_3, zuC_1, zuC_2, reduceIte, Nat.reduceEqDiff, false_and, and_false, true_and, and_true, and_self, or_true, true_or, or_false, false_or] at e201
                    refine zs_iast (r := 2094) (pc := 202) C dX9_layTried_202 a_94 (by decide) (by omega) rfl (r_2094 _) (by omega) ?_
                    first | refine zs_iinc (pc := 203) C dX9_layTried_203 rfl (by decide) (by omega) ?_ | refine zs_iincF (pc := 203) C dX9_layTried_203 rfl (by decide) (fun z203 hz2031 hz2032 => ?_)
                    dsimp only [zset, zclr, znone]
                    refine zs_goto (tgt := 163) (pc := 206) C dX9_layTried_206 (by decide) ?_
                    exact zs_wk (ih163 _ _ (by first | omega | (simp only [zuI_1, zuI_2, zuJ_1, zuJ_2, zuJ_3, zuP_1, zuP_2, zuP_3, zuC_1, zuC_2, reduceIte, Nat.reduceEqDiff, false_and, and_false, true_and, and_true, and_self, or_true, true_or, or_false, false_or]; omega)) (by repeat (first | exact zsm_rf | assumption | refine zsm_C (by decide) ?_ | refine zsm_I (by decide) ?_ | refine zsm_J ?_ | refine zsm_c (by assumption) (by decide) ?_)) (by with_reducible repeat (first | exact RO_rf | assumption | refine RO_0 (by decide) ?_ | refine RO_n 20 (by decide) (by omega) ?_ | refine RO_n 5 (by decide) (by omega) ?_ | refine RO_n 60 (by decide) (by omega) ?_ | refine RO_n 1 (by decide) (by omega) ?_ | refine RO_J (by decide) ?_ | refine RO_c (by assumption) ?_)) (by first | omega | (simp only [zuI_1, zuI_2, zuJ_1, zuJ_2, zuJ_3, zuP_1, zuP_2, zuP_3, zuC_1, zuC_2, reduceIte, Nat.reduceEqDiff, false_and, and_false, true_and, and_true, and_self, or_true, true_or, or_false, false_or]; omega))) (zwk_s rfl (zwk_s rfl zwk_0))
              exact zs_wk (L163 _ _ _ (by first | omega | (simp only [zuI_1, zuI_2, zuJ_1, zuJ_2, zuJ_3, zuP_1, zuP_2, zuP_3, zuC_1, zuC_2, reduceIte, Nat.reduceEqDiff, false_and, and_false, true_and, and_true, and_self, or_true, true_or, or_false, false_or]; omega)) (by repeat (first | exact zsm_rf | assumption | refine zsm_C (by decide) ?_ | refine zsm_I (by decide) ?_ | refine zsm_J ?_ | refine zsm_c (by assumption) (by decide) ?_)) (by with_reducible repeat (first | exact RO_rf | assumption | refine RO_0 (by decide) ?_ | refine RO_n 20 (by decide) (by omega) ?_ | refine RO_n 5 (by decide) (by omega) ?_ | refine RO_n 60 (by decide) (by omega) ?_ | refine RO_n 1 (by decide) (by omega) ?_ | refine RO_J (by decide) ?_ | refine RO_c (by assumption) ?_)) (Nat.lt_succ_self _)) (zwk_s rfl (zwk_s rfl zwk_0))
            · skip
              refine zs_aload_n (pc := 51) C dX9_layTried_51 rfl ?_
              refine zs_getf (pc := 52) C dX9_layTried_52 w_X9_94 f_10_53 (by decide) ?_
              refine zs_iconst (pc := 55) C dX9_layTried_55 (by decide) ?_
              refine zs_iload_n (pc := 56) C dX9_layTried_56 rfl ?_
              first | refine zs_iadd (pc := 57) C dX9_layTried_57 (by omega) ?_ | refine zs_iaddF (pc := 57) C dX9_layTried_57 (fun z57 hz571 hz572 => ?_)
              refine zs_aload_n (pc := 58) C dX9_layTried_58 rfl ?_
              refine zs_getf (pc := 59) C dX9_layTried_59 w_X9_94 f_10_53 (by decide) ?_
              refine zs_iload_n (pc := 62) C dX9_layTried_62 rfl ?_
              refine zs_iald (r := 2083) (pc := 63) C dX9_layTried_63 a_83 (by decide) (by omega) rfl (r_2083 _) (fun v63 e63 l63 u63 => ?_)
              refine zs_iast (r := 2083) (pc := 64) C dX9_layTried_64 a_83 (by decide) (by omega) rfl (r_2083 _) (by omega) ?_
              refine zs_aload_n (pc := 65) C dX9_layTried_65 rfl ?_
              refine zs_getf (pc := 66) C dX9_layTried_66 w_X9_97 f_10_54 (by decide) ?_
              refine zs_iconst (pc := 69) C dX9_layTried_69 (by decide) ?_
              refine zs_iload_n (pc := 70) C dX9_layTried_70 rfl ?_
              first | refine zs_iadd (pc := 71) C dX9_layTried_71 (by omega) ?_ | refine zs_iaddF (pc := 71) C dX9_layTried_71 (fun z71 hz711 hz712 => ?_)
              refine zs_aload_n (pc := 72) C dX9_layTried_72 rfl ?_
              refine zs_getf (pc := 73) C dX9_layTried_73 w_X9_97 f_10_54 (by decide) ?_
              refine zs_iload_n (pc := 76) C dX9_layTried_76 rfl ?_
              refine zs_iald (r := 2084) (pc := 77) C dX9_layTried_77 a_84 (by decide) (by omega) rfl (r_2084 _) (fun v77 e77 l77 u77 => ?_)
              try simp only [zuI_1, zuI_2, zuJ_1, zuJ_2, zuJ_3, zuP_1, zuP_2, zuP_3, zuC_1, zuC_2, reduceIte, Nat.reduceEqDiff, false_and, and_false, true_and, and_true, and_self, or_true, true_or, or_false, false_or] at e77
              refine zs_iast (r := 2084) (pc := 78) C dX9_layTried_78 a_84 (by decide) (by omega) rfl (r_2084 _) (by omega) ?_
              refine zs_aload_n (pc := 79) C dX9_layTried_79 rfl ?_
              refine zs_getf (pc := 80) C dX9_layTried_80 w_X9_100 f_10_55 (by decide) ?_
              refine zs_iconst (pc := 83) C dX9_layTried_83 (by decide) ?_
              refine zs_iload_n (pc := 84) C dX9_layTried_84 rfl ?_
              first | refine zs_iadd (pc := 85) C dX9_layTried_85 (by omega) ?_ | refine zs_iaddF (pc := 85) C dX9_layTried_85 (fun z85 hz851 hz852 => ?_)
              refine zs_aload_n (pc := 86) C dX9_layTried_86 rfl ?_
              refine zs_getf (pc := 87) C dX9_layTried_87 w_X9_100 f_10_55 (by decide) ?_
              refine zs_iload_n (pc := 90) C dX9_layTried_90 rfl ?_
              refine zs_iald (r := 2085) (pc := 91) C dX9_layTried_91 a_85 (by decide) (by omega) rfl (r_2085 _) (fun v91 e91 l91 u91 => ?_)
              try simp only [zuI_1, zuI_2, zuJ_1, zuJ_2, zuJ_3, zuP_1, zuP_2, zuP_3, zuC_1, zuC_2, reduceIte, Nat.reduceEqDiff, false_and, and_false, true_and, and_true, and_self, or_true, true_or, or_false, false_or] at e91
              refine zs_iast (r := 2085) (pc := 92) C dX9_layTried_92 a_85 (by decide) (by omega) rfl (r_2085 _) (by omega) ?_
              refine zs_aload_n (pc := 93) C dX9_layTried_93 rfl ?_
              refine zs_getf (pc := 94) C dX9_layTried_94 w_X9_103 f_10_56 (by decide) ?_
              refine zs_iconst (pc := 97) C dX9_layTried_97 (by decide) ?_
              refine zs_iload_n (pc := 98) C dX9_layTried_98 rfl ?_
              first | refine zs_iadd (pc := 99) C dX9_layTried_99 (by omega) ?_ | refine zs_iaddF (pc := 99) C dX9_layTried_99 (fun z99 hz991 hz992 => ?_)
              refine zs_aload_n (pc := 100) C dX9_layTried_100 rfl ?_
              refine zs_getf (pc := 101) C dX9_layTried_101 w_X9_103 f_10_56 (by decide) ?_
              refine zs_iload_n (pc := 104) C dX9_layTried_104 rfl ?_
              refine zs_iald (r := 2086) (pc := 105) C dX9_layTried_105 a_86 (by decide) (by omega) rfl (r_2086 _) (fun v105 e105 l105 u105 => ?_)
              try simp only [zuI_1, zuI_2, zuJ_1, zuJ_2, zuJ_3, zuP_1, zuP_2, zuP_3, zuC_1, zuC_2, reduceIte, Nat.reduceEqDiff, false_and, and_false, true_and, and_true, and_self, or_true, true_or, or_false, false_or] at e105
              refine zs_iast (r := 2086) (pc := 106) C dX9_layTried_106 a_86 (by decide) (by omega) rfl (r_2086 _) (by omega) ?_
              first | refine zs_iinc (pc := 107) C dX9_layTried_107 rfl (by decide) (by omega) ?_ | refine zs_iincF (pc := 107) C dX9_layTried_107 rfl (by decide) (fun z107 hz1071 hz1072 => ?_)
              dsimp only [zset, zclr, znone]
              refine zs_goto (tgt := 46) (pc := 110) C dX9_layTried_110 (by decide) ?_
              exact zs_wk (ih46 _ _ (by first | omega | (simp only [zuI_1, zuI_2, zuJ_1, zuJ_2, zuJ_3, zuP_1, zuP_2, zuP_3, zuC_1, zuC_2, reduceIte, Nat.reduceEqDiff, false_and, and_false, true_and, and_true, and_self, or_true, true_or, or_false, false_or]; omega)) (by repeat (first | exact zsm_rf | assumption | refine zsm_C (by decide) ?_ | refine zsm_I (by decide) ?_ | refine zsm_J ?_ | refine zsm_c (by assumption) (by decide) ?_)) (by with_reducible repeat (first | exact RO_rf | assumption | refine RO_0 (by decide) ?_ | refine RO_n 20 (by decide) (by omega) ?_ | refine RO_n 5 (by decide) (by omega) ?_ | refine RO_n 60 (by decide) (by omega) ?_ | refine RO_n 1 (by decide) (by omega) ?_ | refine RO_J (by decide) ?_ | refine RO_c (by assumption) ?_)) (by first | omega | (simp only [zuI_1, zuI_2, zuJ_1, zuJ_2, zuJ_3, zuP_1, zuP_2, zuP_3, zuC_1, zuC_2, reduceIte, Nat.reduceEqDiff, false_and, and_false, true_and, and_true, and_self, or_true, true_or, or_false, false_or]; omega))) (zwk_s rfl (zwk_s rfl zwk_0))
        exact zs_wk (L46 _ _ _ (by first | omega | (simp only [zuI_1, zuI_2, zuJ_1, zuJ_2, zuJ_3, zuP_1, zuP_2, zuP_3, zuC_1, zuC_2, reduceIte, Nat.reduceEqDiff, false_and, and_false, true_and, and_true, and_self, or_true, true_or, or_false, false_or]; omega)) (by repeat (first | exact zsm_rf | assumption | refine zsm_C (by decide) ?_ | refine zsm_I (by decide) ?_ | refine zsm_J ?_ | refine zsm_c (by assumption) (by decide) ?_)) (by with_reducible repeat (first | exact RO_rf | assumption | refine RO_0 (by decide) ?_ | refine RO_n 20 (by decide) (by omega) ?_ | refine RO_n 5 (by decide) (by omega) ?_ | refine RO_n 60 (by decide) (by omega) ?_ | refine RO_n 1 (by decide) (by omega) ?_ | refine RO_J (by decide) ?_ | refine RO_c (by assumption) ?_)) (Nat.lt_succ_self _)) (zwk_s rfl (zwk_s rfl zwk_0))
      · skip
        refine zs_aload_n (pc := 8) C dX9_layTried_8 rfl ?_
        refine zs_getf (pc := 9) C dX9_layTried_9 w_X9_88 f_10_51 (by decide) ?_
        refine zs_bipush (pc := 12) C dX9_layTried_12 (by decide) (by decide) ?_
        refine zs_iload_n (pc := 14) C dX9_layTried_14 rfl ?_
        first | refine zs_iadd (pc := 15) C dX9_layTried_15 (by omega) ?_ | refine zs_iaddF (pc := 15) C dX9_layTried_15 (fun z15 hz151 hz152 => ?_)
        refine zs_aload_n (pc := 16) C dX9_layTried_16 rfl ?_
        refine zs_getf (pc := 17) C dX9_layTried_17 w_X9_88 f_10_51 (by decide) ?_
        refine zs_iload_n (pc := 20) C dX9_layTried_20 rfl ?_
        refine zs_iald (r := 2081) (pc := 21) C dX9_layTried_21 a_81 (by decide) (by omega) rfl (r_2081 _) (fun v21 e21 l21 u21 => ?_)
        refine zs_iast (r := 2081) (pc := 22) C dX9_layTried_22 a_81 (by decide) (by omega) rfl (r_2081 _) (by omega) ?_
        refine zs_aload_n (pc := 23) C dX9_layTried_23 rfl ?_
        refine zs_getf (pc := 24) C dX9_layTried_24 w_X9_91 f_10_52 (by decide) ?_
        refine zs_bipush (pc := 27) C dX9_layTried_27 (by decide) (by decide) ?_
        refine zs_iload_n (pc := 29) C dX9_layTried_29 rfl ?_
        first | refine zs_iadd (pc := 30) C dX9_layTried_30 (by omega) ?_ | refine zs_iaddF (pc := 30) C dX9_layTried_30 (fun z30 hz301 hz302 => ?_)
        refine zs_aload_n (pc := 31) C dX9_layTried_31 rfl ?_
        refine zs_getf (pc := 32) C dX9_layTried_32 w_X9_91 f_10_52 (by decide) ?_
        refine zs_iload_n (pc := 35) C dX9_layTried_35 rfl ?_
        refine zs_iald (r := 2082) (pc := 36) C dX9_layTried_36 a_82 (by decide) (by omega) rfl (r_2082 _) (fun v36 e36 l36 u36 => ?_)
        try simp only [zuI_1, zuI_2, zuJ_1, zuJ_2, zuJ_3, zuP_1, zuP_2, zuP_3, zuC_1, zuC_2, reduceIte, Nat.reduceEqDiff, false_and, and_false, true_and, and_true, and_self, or_true, true_or, or_false, false_or] at e36
        refine zs_iast (r := 2082) (pc := 37) C dX9_layTried_37 a_82 (by decide) (by omega) rfl (r_2082 _) (by omega) ?_
        first | refine zs_iinc (pc := 38) C dX9_layTried_38 rfl (by decide) (by omega) ?_ | refine zs_iincF (pc := 38) C dX9_layTried_38 rfl (by decide) (fun z38 hz381 hz382 => ?_)
        dsimp only [zset, zclr, znone]
        refine zs_goto (tgt := 2) (pc := 41) C dX9_layTried_41 (by decide) ?_
        exact zs_wk (ih2 _ _ (by first | omega | (simp only [zuI_1, zuI_2, zuJ_1, zuJ_2, zuJ_3, zuP_1, zuP_2, zuP_3, zuC_1, zuC_2, reduceIte, Nat.reduceEqDiff, false_and, and_false, true_and, and_true, and_self, or_true, true_or, or_false, false_or]; omega)) (by repeat (first | exact zsm_rf | assumption | refine zsm_C (by decide) ?_ | refine zsm_I (by decide) ?_ | refine zsm_J ?_ | refine zsm_c (by assumption) (by decide) ?_)) (by with_reducible repeat (first | exact RO_rf | assumption | refine RO_0 (by decide) ?_ | refine RO_n 20 (by decide) (by omega) ?_ | refine RO_n 5 (by decide) (by omega) ?_ | refine RO_n 60 (by decide) (by omega) ?_ | refine RO_n 1 (by decide) (by omega) ?_ | refine RO_J (by decide) ?_ | refine RO_c (by assumption) ?_)) (by first | omega | (simp only [zuI_1, zuI_2, zuJ_1, zuJ_2, zuJ_3, zuP_1, zuP_2, zuP_3, zuC_1, zuC_2, reduceIte, Nat.reduceEqDiff, false_and, and_false, true_and, and_true, and_self, or_true, true_or, or_false, false_or]; omega))) (zwk_s rfl (zwk_s rfl zwk_0))
  exact zs_wk (L2 _ _ _ (by first | omega | (simp only [zuI_1, zuI_2, zuJ_1, zuJ_2, zuJ_3, zuP_1, zuP_2, zuP_3, zuC_1, zuC_2, reduceIte, Nat.reduceEqDiff, false_and, and_false, true_and, and_true, and_self, or_true, true_or, or_false, false_or]; omega)) (by repeat (first | exact zsm_rf | assumption | refine zsm_C (by decide) ?_ | refine zsm_I (by decide) ?_ | refine zsm_J ?_ | refine zsm_c (by assumption) (by decide) ?_)) (by with_reducible repeat (first | exact RO_rf | assumption | refine RO_0 (by decide) ?_ | refine RO_n 20 (by decide) (by omega) ?_ | refine RO_n 5 (by decide) (by omega) ?_ | refine RO_n 60 (by decide) (by omega) ?_ | refine RO_n 1 (by decide) (by omega) ?_ | refine RO_J (by decide) ?_ | refine RO_c (by assumption) ?_)) (Nat.lt_succ_self _)) (zwk_s rfl (zwk_s rfl zwk_0))

set_option maxHeartbeats 4000000 in
set_option maxRecDepth 100000 in
theorem c_X9_grinds1O {l : Launch} {Γ : zΓ} {G : zH} {w : Nat} {b0 p0 s0 : Int} (hX : zXs Γ) (hM : MI Γ w G)(hb : b0 = 1)(hp : 0 ≤ p0 ∧ p0 ≤ 4)(hs : 0 ≤ s0 ∧ s0 ≤ 3)(hg : 0 < G.1 2088 (Γ.2.1 w 58) b0.toNat) (hk : G.1 2087 (Γ.2.1 w 57) b0.toNat ≤ 59) : zMet l Γ yX9_grinds cX9_grinds 9 (some .int) 5 [zr 10 w, zi b0, zi p0, zi s0] G (zpi (fun x G' => zsm [2091, 2092, 2093, 2094, 2095, 2088, 2087, 2082, 2084, 2083, 2089, 1050] G G' ∧ RO G G' ∧ True)) := by
  refine zMet_of RX9 hX (by decide) rfl (Nat.le_of_ble_eq_true rfl) ?_
  intro p e s m args below meth c C hr hlk
  show Z p l e (zrm 5) s m args below meth c Γ 9 0 0 (MQ below (zQc Γ (zpi (fun x G' => zsm [2091, 2092, 2093, 2094, 2095, 2088, 2087, 2082, 2084, 2083, 2089, 1050] G G' ∧ RO G G' ∧ True))) args s 0 0 (zA Γ)) 0 [some (zr 10 w), some (zi b0), some (zi p0), some (zi s0), none, none, none, none, none] [] G
  refine zs_loc 1 rfl (fun ha1 hb1 => ?_)
  refine zs_loc 2 rfl (fun ha2 hb2 => ?_)
  refine zs_loc 3 rfl (fun ha3 hb3 => ?_)
  refine zs_aload_n (pc := 0) C dX9_grinds_0 rfl ?_
  refine zs_iload_n (pc := 1) C dX9_grinds_1 rfl ?_
  refine zs_iload_n (pc := 2) C dX9_grinds_2 rfl ?_
  refine zs_iload_n (pc := 3) C dX9_grinds_3 rfl ?_
  refine zVi3 (pc := 4) C dX9_grinds_4 v_X9_427 (c_X9_fineOfO hX (by repeat (first | assumption | refine MI_I (by decide) ?_ | refine MI_J ?_ | refine MI_sm (by assumption) (by decide) ?_ | refine MI_sn (by assumption) (by decide) ?_)) (by omega) (by omega) (by omega)) (by decide) (by decide) ⟨Nat.zero_le _, Nat.zero_le _⟩ (Nat.le_of_ble_eq_true rfl) (fun x4 G4 l4 u4 hp4 => ?_)
  obtain ⟨hz4, lo4, hq4⟩ := hp4
  have t2087_4 := zsm_at hz4 2087 (Γ.2.1 w 57) b0.toNat (by decide)
  have t2088_4 := zsm_at hz4 2088 (Γ.2.1 w 58) b0.toNat (by decide)
  refine zs_istore (pc := 7) C dX9_grinds_7 (by decide) ?_
  dsimp only [zset, zclr, znone]
  refine zs_aload_n (pc := 9) C dX9_grinds_9 rfl ?_
  refine zs_iconst (pc := 10) C dX9_grinds_10 (by decide) ?_
  refine zs_iconst (pc := 11) C dX9_grinds_11 (by decide) ?_
  refine zs_bipush (pc := 12) C dX9_grinds_12 (by decide) (by decide) ?_
  refine zVi3 (pc := 14) C dX9_grinds_14 v_X9_424 (c_X9_boundLawO hX (by repeat (first | assumption | refine MI_I (by decide) ?_ | refine MI_J ?_ | refine MI_sm (by assumption) (by decide) ?_ | refine MI_sn (by assumption) (by decide) ?_)) (by omega)) (by decide) (by decide) ⟨Nat.zero_le _, Nat.zero_le _⟩ (Nat.le_of_ble_eq_true rfl) (fun x14 G14 l14 u14 hp14 => ?_)
  obtain ⟨hz14, lo14, hq14⟩ := hp14
  have t2087_14 := zsm_at hz14 2087 (Γ.2.1 w 57) b0.toNat (by decide)
  have t2088_14 := zsm_at hz14 2088 (Γ.2.1 w 58) b0.toNat (by decide)
  refine zs_istore (pc := 17) C dX9_grinds_17 (by decide) ?_
  dsimp only [zset, zclr, znone]
  refine zs_aload_n (pc := 19) C dX9_grinds_19 rfl ?_
  refine zs_iload_n (pc := 20) C dX9_grinds_20 rfl ?_
  refine zs_iload_n (pc := 21) C dX9_grinds_21 rfl ?_
  refine zs_iload_n (pc := 22) C dX9_grinds_22 rfl ?_
  refine zVip3 (pc := 23) C dX9_grinds_23 v_X9_394 (c_X9_leftOf hX (by omega) (by omega) (by omega)) (by decide) (by decide) ⟨Nat.zero_le _, Nat.zero_le _⟩ (Nat.le_of_ble_eq_true rfl) (fun x23 l23 u23 hp23 => ?_)
  have hq23 := hp23
  have J36 : ∀ (x6 : Int), (x6 = 0 ∨ x6 = 1) → Z p l e (zrm 5) s m args below meth c Γ 9 0 0 (MQ below (zQc Γ (zpi (fun x G' => zsm [2091, 2092, 2093, 2094, 2095, 2088, 2087, 2082, 2084, 2083, 2089, 1050] G G' ∧ RO G G' ∧ True))) args s 0 0 (zA Γ)) 36 [some (zr 10 w), some (zi b0), some (zi p0), some (zi s0), some (zi x4), some (zi x14), some (zi x6), none, none] [] G14 := by
    intro x6 h36_0
    refine zs_aload_n (pc := 36) C dX9_grinds_36 rfl ?_
    refine zs_getf (pc := 37) C dX9_grinds_37 w_X9_106 f_10_57 (by decide) ?_
    refine zs_iload_n (pc := 40) C dX9_grinds_40 rfl ?_
    refine zs_iald (r := 2087) (pc := 41) C dX9_grinds_41 a_87 (by decide) (by omega) rfl (r_2087 _) (fun v41 e41 l41 u41 => ?_)
    refine zs_istore (pc := 42) C dX9_grinds_42 (by decide) ?_
    dsimp only [zset, zclr, znone]
    refine zs_aload_n (pc := 44) C dX9_grinds_44 rfl ?_
    refine zs_getf (pc := 45) C dX9_grinds_45 w_X9_118 f_10_62 (by decide) ?_
    refine zs_bipush (pc := 48) C dX9_grinds_48 (by decide) (by decide) ?_
    refine zs_iload_n (pc := 50) C dX9_grinds_50 rfl ?_
    first | refine zs_imul (pc := 51) C dX9_grinds_51 (by omega) ?_ | refine zs_imulF (pc := 51) C dX9_grinds_51 (fun z51 hz511 hz512 => ?_)
    refine zs_iload (pc := 52) C dX9_grinds_52 rfl ?_
    first | refine zs_iadd (pc := 54) C dX9_grinds_54 (by omega) ?_ | refine zs_iaddF (pc := 54) C dX9_grinds_54 (fun z54 hz541 hz542 => ?_)
    refine zs_iload_n (pc := 55) C dX9_grinds_55 rfl ?_
    refine zs_iast (r := 2091) (pc := 56) C dX9_grinds_56 a_91 (by decide) (by omega) rfl (r_2091 _) (by omega) ?_
    refine zs_aload_n (pc := 57) C dX9_grinds_57 rfl ?_
    refine zs_getf (pc := 58) C dX9_grinds_58 w_X9_121 f_10_63 (by decide) ?_
    refine zs_bipush (pc := 61) C dX9_grinds_61 (by decide) (by decide) ?_
    refine zs_iload_n (pc := 63) C dX9_grinds_63 rfl ?_
    first | refine zs_imul (pc := 64) C dX9_grinds_64 (by omega) ?_ | refine zs_imulF (pc := 64) C dX9_grinds_64 (fun z64 hz641 hz642 => ?_)
    refine zs_iload (pc := 65) C dX9_grinds_65 rfl ?_
    first | refine zs_iadd (pc := 67) C dX9_grinds_67 (by omega) ?_ | refine zs_iaddF (pc := 67) C dX9_grinds_67 (fun z67 hz671 hz672 => ?_)
    refine zs_iload_n (pc := 68) C dX9_grinds_68 rfl ?_
    refine zs_iast (r := 2092) (pc := 69) C dX9_grinds_69 a_92 (by decide) (by omega) rfl (r_2092 _) (by omega) ?_
    refine zs_aload_n (pc := 70) C dX9_grinds_70 rfl ?_
    refine zs_getf (pc := 71) C dX9_grinds_71 w_X9_124 f_10_64 (by decide) ?_
    refine zs_bipush (pc := 74) C dX9_grinds_74 (by decide) (by decide) ?_
    refine zs_iload_n (pc := 76) C dX9_grinds_76 rfl ?_
    first | refine zs_imul (pc := 77) C dX9_grinds_77 (by omega) ?_ | refine zs_imulF (pc := 77) C dX9_grinds_77 (fun z77 hz771 hz772 => ?_)
    refine zs_iload (pc := 78) C dX9_grinds_78 rfl ?_
    first | refine zs_iadd (pc := 80) C dX9_grinds_80 (by omega) ?_ | refine zs_iaddF (pc := 80) C dX9_grinds_80 (fun z80 hz801 hz802 => ?_)
    refine zs_iload (pc := 81) C dX9_grinds_81 rfl ?_
    refine zs_iast (r := 2093) (pc := 83) C dX9_grinds_83 a_93 (by decide) (by omega) rfl (r_2093 _) (by omega) ?_
    refine zs_aload_n (pc := 84) C dX9_grinds_84 rfl ?_
    refine zs_getf (pc := 85) C dX9_grinds_85 w_X9_127 f_10_65 (by decide) ?_
    refine zs_bipush (pc := 88) C dX9_grinds_88 (by decide) (by decide) ?_
    refine zs_iload_n (pc := 90) C dX9_grinds_90 rfl ?_
    first | refine zs_imul (pc := 91) C dX9_grinds_91 (by omega) ?_ | refine zs_imulF (pc := 91) C dX9_grinds_91 (fun z91 hz911 hz912 => ?_)
    refine zs_iload (pc := 92) C dX9_grinds_92 rfl ?_
    first | refine zs_iadd (pc := 94) C dX9_grinds_94 (by omega) ?_ | refine zs_iaddF (pc := 94) C dX9_grinds_94 (fun z94 hz941 hz942 => ?_)
    refine zs_aload_n (pc := 95) C dX9_grinds_95 rfl ?_
    refine zs_getf (pc := 96) C dX9_grinds_96 w_X9_109 f_10_58 (by decide) ?_
    refine zs_iload_n (pc := 99) C dX9_grinds_99 rfl ?_
    refine zs_iald (r := 2088) (pc := 100) C dX9_grinds_100 a_88 (by decide) (by omega) rfl (r_2088 _) (fun v100 e100 l100 u100 => ?_)
    try simp only [zuI_1, zuI_2, zuJ_1, zuJ_2, zuJ_3, zuP_1, zuP_2, zuP_3, zuC_1, zuC_2, reduceIte, Nat.reduceEqDiff, false_and, and_false, true_and, and_true, and_self, or_true, true_or, or_false, false_or] at e100
    refine zs_aload_n (pc := 101) C dX9_grinds_101 rfl ?_
    refine zs_getf (pc := 102) C dX9_grinds_102 w_X9_20 f_10_22 (by decide) ?_
    refine zs_iconst (pc := 105) C dX9_grinds_105 (by decide) ?_
    refine zs_iald (r := 2059) (pc := 106) C dX9_grinds_106 a_59 (by decide) (by omega) rfl (show zrg 2059 (1 : Int).toNat = (0, 99) from rfl) (fun v106 e106 l106 u106 => ?_)
    try simp only [zuI_1, zuI_2, zuJ_1, zuJ_2, zuJ_3, zuP_1, zuP_2, zuP_3, zuC_1, zuC_2, reduceIte, Nat.reduceEqDiff, false_and, and_false, true_and, and_true, and_self, or_true, true_or, or_false, false_or] at e106
    have J126 : ∀ (G5 : zH), (zsm [2091, 2092, 2093, 2094, 2095, 2088, 2087, 2082, 2084, 2083, 2089, 1050] G G5) → (G5.1 2087 (Γ.2.1 w 57) b0.toNat ≤ 59) → (RO G G5) → Z p l e (zrm 5) s m args below meth c Γ 9 0 0 (MQ below (zQc Γ (zpi (fun x G' => zsm [2091, 2092, 2093, 2094, 2095, 2088, 2087, 2082, 2084, 2083, 2089, 1050] G G' ∧ RO G G' ∧ True))) args s 0 0 (zA Γ)) 126 [some (zr 10 w), some (zi b0), some (zi p0), some (zi s0), some (zi x4), some (zi x14), some (zi x6), some (zi v41), none] [] G5 := by
      intro G5 h126_0 h126_1 h126_2
      refine zs_aload_n (pc := 126) C dX9_grinds_126 rfl ?_
      refine zs_getf (pc := 127) C dX9_grinds_127 w_X9_130 f_10_66 (by decide) ?_
      refine zs_bipush (pc := 130) C dX9_grinds_130 (by decide) (by decide) ?_
      refine zs_iload_n (pc := 132) C dX9_grinds_132 rfl ?_
      first | refine zs_imul (pc := 133) C dX9_grinds_133 (by omega) ?_ | refine zs_imulF (pc := 133) C dX9_grinds_133 (fun z133 hz1331 hz1332 => ?_)
      refine zs_iload (pc := 134) C dX9_grinds_134 rfl ?_
      first | refine zs_iadd (pc := 136) C dX9_grinds_136 (by omega) ?_ | refine zs_iaddF (pc := 136) C dX9_grinds_136 (fun z136 hz1361 hz1362 => ?_)
      refine zs_iload (pc := 137) C dX9_grinds_137 rfl ?_
      have J148 : ∀ (G6 : zH), (zsm [2091, 2092, 2093, 2094, 2095, 2088, 2087, 2082, 2084, 2083, 2089, 1050] G G6) → (G6.1 2087 (Γ.2.1 w 57) b0.toNat ≤ 59) → (RO G G6) → Z p l e (zrm 5) s m args below meth c Γ 9 0 0 (MQ below (zQc Γ (zpi (fun x G' => zsm [2091, 2092, 2093, 2094, 2095, 2088, 2087, 2082, 2084, 2083, 2089, 1050] G G' ∧ RO G G' ∧ True))) args s 0 0 (zA Γ)) 148 [some (zr 10 w), some (zi b0), some (zi p0), some (zi s0), some (zi x4), some (zi x14), some (zi x6), some (zi v41), none] [] G6 := by
        intro G6 h148_0 h148_1 h148_2
        refine zs_iload_n (pc := 148) C dX9_grinds_148 rfl ?_
        have J259 : ∀ (G7 : zH), (zsm [2091, 2092, 2093, 2094, 2095, 2088, 2087, 2082, 2084, 2083, 2089, 1050] G G7) → (G7.1 2087 (Γ.2.1 w 57) b0.toNat ≤ 59) → (RO G G7) → Z p l e (zrm 5) s m args below meth c Γ 9 0 0 (MQ below (zQc Γ (zpi (fun x G' => zsm [2091, 2092, 2093, 2094, 2095, 2088, 2087, 2082, 2084, 2083, 2089, 1050] G G' ∧ RO G G' ∧ True))) args s 0 0 (zA Γ)) 259 [some (zr 10 w), some (zi b0), some (zi p0), some (zi s0), some (zi x4), some (zi x14), some (zi x6), some (zi v41), none] [] G7 := by
          intro G7 h259_0 h259_1 h259_2
          refine zs_aload_n (pc := 259) C dX9_grinds_259 rfl ?_
          refine zs_getf (pc := 260) C dX9_grinds_260 w_X9_109 f_10_58 (by decide) ?_
          refine zs_iload_n (pc := 263) C dX9_grinds_263 rfl ?_
          refine zs_dup2 (pc := 264) C dX9_grinds_264 ?_
          refine zs_iald (r := 2088) (pc := 265) C dX9_grinds_265 a_88 (by decide) (by omega) rfl (r_2088 _) (fun v265 e265 l265 u265 => ?_)
          refine zs_aload_n (pc := 266) C dX9_grinds_266 rfl ?_
          refine zs_getf (pc := 267) C dX9_grinds_267 w_X9_127 f_10_65 (by decide) ?_
          refine zs_bipush (pc := 270) C dX9_grinds_270 (by decide) (by decide) ?_
          refine zs_iload_n (pc := 272) C dX9_grinds_272 rfl ?_
          first | refine zs_imul (pc := 273) C dX9_grinds_273 (by omega) ?_ | refine zs_imulF (pc := 273) C dX9_grinds_273 (fun z273 hz2731 hz2732 => ?_)
          refine zs_iload (pc := 274) C dX9_grinds_274 rfl ?_
          first | refine zs_iadd (pc := 276) C dX9_grinds_276 (by omega) ?_ | refine zs_iaddF (pc := 276) C dX9_grinds_276 (fun z276 hz2761 hz2762 => ?_)
          refine zs_iald (r := 2094) (pc := 277) C dX9_grinds_277 a_94 (by decide) (by omega) rfl (r_2094 _) (fun v277 e277 l277 u277 => ?_)
          first | refine zs_isub (pc := 278) C dX9_grinds_278 (by omega) ?_ | refine zs_isubF (pc := 278) C dX9_grinds_278 (fun z278 hz2781 hz2782 => ?_)
          refine zs_iast (r := 2088) (pc := 279) C dX9_grinds_279 a_88 (by decide) (by omega) rfl (r_2088 _) (by omega) ?_
          refine zs_aload_n (pc := 280) C dX9_grinds_280 rfl ?_
          refine zs_getf (pc := 281) C dX9_grinds_281 w_X9_106 f_10_57 (by decide) ?_
          refine zs_iload_n (pc := 284) C dX9_grinds_284 rfl ?_
          refine zs_dup2 (pc := 285) C dX9_grinds_285 ?_
          refine zs_iald (r := 2087) (pc := 286) C dX9_grinds_286 a_87 (by decide) (by omega) rfl (r_2087 _) (fun v286 e286 l286 u286 => ?_)
          try simp only [zuI_1, zuI_2, zuJ_1, zuJ_2, zuJ_3, zuP_1, zuP_2, zuP_3, zuC_1, zuC_2, reduceIte, Nat.reduceEqDiff, false_and, and_false, true_and, and_true, and_self, or_true, true_or, or_false, false_or] at e286
          refine zs_iconst (pc := 287) C dX9_grinds_287 (by decide) ?_
          first | refine zs_iadd (pc := 288) C dX9_grinds_288 (by omega) ?_ | refine zs_iaddF (pc := 288) C dX9_grinds_288 (fun z288 hz2881 hz2882 => ?_)
          refine zs_iast (r := 2087) (pc := 289) C dX9_grinds_289 a_87 (by decide) (by omega) rfl (r_2087 _) (by omega) ?_
          refine zs_aload_n (pc := 290) C dX9_grinds_290 rfl ?_
          refine zs_getf (pc := 291) C dX9_grinds_291 w_X9_91 f_10_52 (by decide) ?_
          refine zs_bipush (pc := 294) C dX9_grinds_294 (by decide) (by decide) ?_
          refine zs_iload_n (pc := 296) C dX9_grinds_296 rfl ?_
          first | refine zs_imul (pc := 297) C dX9_grinds_297 (by omega) ?_ | refine zs_imulF (pc := 297) C dX9_grinds_297 (fun z297 hz2971 hz2972 => ?_)
          refine zs_iconst (pc := 298) C dX9_grinds_298 (by decide) ?_
          refine zs_iload_n (pc := 299) C dX9_grinds_299 rfl ?_
          first | refine zs_imul (pc := 300) C dX9_grinds_300 (by omega) ?_ | refine zs_imulF (pc := 300) C dX9_grinds_300 (fun z300 hz3001 hz3002 => ?_)
          first | refine zs_iadd (pc := 301) C dX9_grinds_301 (by omega) ?_ | refine zs_iaddF (pc := 301) C dX9_grinds_301 (fun z301 hz3011 hz3012 => ?_)
          refine zs_iload_n (pc := 302) C dX9_grinds_302 rfl ?_
          first | refine zs_iadd (pc := 303) C dX9_grinds_303 (by omega) ?_ | refine zs_iaddF (pc := 303) C dX9_grinds_303 (fun z303 hz3031 hz3032 => ?_)
          refine zs_dup2 (pc := 304) C dX9_grinds_304 ?_
          refine zs_iald (r := 2082) (pc := 305) C dX9_grinds_305 a_82 (by decide) (by omega) rfl (r_2082 _) (fun v305 e305 l305 u305 => ?_)
          try simp only [zuI_1, zuI_2, zuJ_1, zuJ_2, zuJ_3, zuP_1, zuP_2, zuP_3, zuC_1, zuC_2, reduceIte, Nat.reduceEqDiff, false_and, and_false, true_and, and_true, and_self, or_true, true_or, or_false, false_or] at e305
          refine zs_iload (pc := 306) C dX9_grinds_306 rfl ?_
          have J318 : ∀ (G8 : zH), (zsm [2091, 2092, 2093, 2094, 2095, 2088, 2087, 2082, 2084, 2083, 2089, 1050] G G8) → (RO G G8) → Z p l e (zrm 5) s m args below meth c Γ 9 0 0 (MQ below (zQc Γ (zpi (fun x G' => zsm [2091, 2092, 2093, 2094, 2095, 2088, 2087, 2082, 2084, 2083, 2089, 1050] G G' ∧ RO G G' ∧ True))) args s 0 0 (zA Γ)) 318 [some (zr 10 w), some (zi b0), some (zi p0), some (zi s0), some (zi x4), some (zi x14), some (zi x6), some (zi v41), none] [] G8 := by
            intro G8 h318_0 h318_1
            refine zs_aload_n (pc := 318) C dX9_grinds_318 rfl ?_
            refine zs_getf (pc := 319) C dX9_grinds_319 w_X9_97 f_10_54 (by decide) ?_
            refine zs_iconst (pc := 322) C dX9_grinds_322 (by decide) ?_
            refine zs_iload_n (pc := 323) C dX9_grinds_323 rfl ?_
            first | refine zs_imul (pc := 324) C dX9_grinds_324 (by omega) ?_ | refine zs_imulF (pc := 324) C dX9_grinds_324 (fun z324 hz3241 hz3242 => ?_)
            refine zs_iload_n (pc := 325) C dX9_grinds_325 rfl ?_
            first | refine zs_iadd (pc := 326) C dX9_grinds_326 (by omega) ?_ | refine zs_iaddF (pc := 326) C dX9_grinds_326 (fun z326 hz3261 hz3262 => ?_)
            refine zs_dup2 (pc := 327) C dX9_grinds_327 ?_
            refine zs_iald (r := 2084) (pc := 328) C dX9_grinds_328 a_84 (by decide) (by omega) rfl (r_2084 _) (fun v328 e328 l328 u328 => ?_)
            refine zs_iload (pc := 329) C dX9_grinds_329 rfl ?_
            have J341 : ∀ (G9 : zH), (zsm [2091, 2092, 2093, 2094, 2095, 2088, 2087, 2082, 2084, 2083, 2089, 1050] G G9) → (RO G G9) → Z p l e (zrm 5) s m args below meth c Γ 9 0 0 (MQ below (zQc Γ (zpi (fun x G' => zsm [2091, 2092, 2093, 2094, 2095, 2088, 2087, 2082, 2084, 2083, 2089, 1050] G G' ∧ RO G G' ∧ True))) args s 0 0 (zA Γ)) 341 [some (zr 10 w), some (zi b0), some (zi p0), some (zi s0), some (zi x4), some (zi x14), some (zi x6), some (zi v41), none] [] G9 := by
              intro G9 h341_0 h341_1
              refine zs_aload_n (pc := 341) C dX9_grinds_341 rfl ?_
              refine zs_getf (pc := 342) C dX9_grinds_342 w_X9_94 f_10_53 (by decide) ?_
              refine zs_iconst (pc := 345) C dX9_grinds_345 (by decide) ?_
              refine zs_iload_n (pc := 346) C dX9_grinds_346 rfl ?_
              first | refine zs_imul (pc := 347) C dX9_grinds_347 (by omega) ?_ | refine zs_imulF (pc := 347) C dX9_grinds_347 (fun z347 hz3471 hz3472 => ?_)
              refine zs_iload_n (pc := 348) C dX9_grinds_348 rfl ?_
              first | refine zs_iadd (pc := 349) C dX9_grinds_349 (by omega) ?_ | refine zs_iaddF (pc := 349) C dX9_grinds_349 (fun z349 hz3491 hz3492 => ?_)
              refine zs_dup2 (pc := 350) C dX9_grinds_350 ?_
              refine zs_iald (r := 2083) (pc := 351) C dX9_grinds_351 a_83 (by decide) (by omega) rfl (r_2083 _) (fun v351 e351 l351 u351 => ?_)
              refine zs_iconst (pc := 352) C dX9_grinds_352 (by decide) ?_
              first | refine zs_iadd (pc := 353) C dX9_grinds_353 (by omega) ?_ | refine zs_iaddF (pc := 353) C dX9_grinds_353 (fun z353 hz3531 hz3532 => ?_)
              refine zs_iast (r := 2083) (pc := 354) C dX9_grinds_354 a_83 (by decide) (by omega) rfl (r_2083 _) (by omega) ?_
              have J400 : ∀ (G10 : zH), (zsm [2091, 2092, 2093, 2094, 2095, 2088, 2087, 2082, 2084, 2083, 2089, 1050] G G10) → (RO G G10) → Z p l e (zrm 5) s m args below meth c Γ 9 0 0 (MQ below (zQc Γ (zpi (fun x G' => zsm [2091, 2092, 2093, 2094, 2095, 2088, 2087, 2082, 2084, 2083, 2089, 1050] G G' ∧ RO G G' ∧ True))) args s 0 0 (zA Γ)) 400 [some (zr 10 w), some (zi b0), some (zi p0), some (zi s0), some (zi x4), some (zi x14), some (zi x6), some (zi v41), none] [] G10 := by
                intro G10 h400_0 h400_1
                refine zs_iload (pc := 400) C dX9_grinds_400 rfl ?_
                exact zs_iret (pc := 402) C hr hlk dX9_grinds_402 ⟨by repeat (first | exact zsm_rf | assumption | refine zsm_C (by decide) ?_ | refine zsm_I (by decide) ?_ | refine zsm_J ?_ | refine zsm_c (by assumption) (by decide) ?_), (by with_reducible repeat (first | exact RO_rf | assumption | refine RO_0 (by decide) ?_ | refine RO_n 20 (by decide) (by omega) ?_ | refine RO_n 5 (by decide) (by omega) ?_ | refine RO_n 60 (by decide) (by omega) ?_ | refine RO_n 1 (by decide) (by omega) ?_ | refine RO_J (by decide) ?_ | refine RO_c (by assumption) ?_)), trivial⟩
              refine zs_iload_n (pc := 355) C dX9_grinds_355 rfl ?_
              refine zs_if_eq (tgt := 366) (pc := 356) C dX9_grinds_356 (by decide) (fun h356 => ?_) (fun h356 => ?_)
              · skip
                exfalso; omega
              · skip
                refine zs_aload_n (pc := 359) C dX9_grinds_359 rfl ?_
                refine zs_geti (r := 1074) (pc := 360) C dX9_grinds_360 w_X9_148 f_10_74 rfl (r_1074 0) (fun v360 e360 l360 u360 => ?_)
                try simp only [zuI_1, zuI_2, zuJ_1, zuJ_2, zuJ_3, zuP_1, zuP_2, zuP_3, zuC_1, zuC_2, reduceIte, Nat.reduceEqDiff, false_and, and_false, true_and, and_true, and_self, or_true, true_or, or_false, false_or] at e360
                refine zs_if_eq (tgt := 400) (pc := 363) C dX9_grinds_363 (by decide) (fun h363 => ?_) (fun h363 => ?_)
                · skip
                  exact zs_wk (J400 _ (by repeat (first | exact zsm_rf | assumption | refine zsm_C (by decide) ?_ | refine zsm_I (by decide) ?_ | refine zsm_J ?_ | refine zsm_c (by assumption) (by decide) ?_)) (by with_reducible repeat (first | exact RO_rf | assumption | refine RO_0 (by decide) ?_ | refine RO_n 20 (by decide) (by omega) ?_ | refine RO_n 5 (by decide) (by omega) ?_ | refine RO_n 60 (by decide) (by omega) ?_ | refine RO_n 1 (by decide) (by omega) ?_ | refine RO_J (by decide) ?_ | refine RO_c (by assumption) ?_))) (zwk_s rfl (zwk_s rfl (zwk_s rfl (zwk_s rfl (zwk_s rfl (zwk_s rfl (zwk_s rfl (zwk_s rfl (zwk_n zwk_0)))))))))
                · skip
                  refine zs_aload_n (pc := 366) C dX9_grinds_366 rfl ?_
                  refine zs_getf (pc := 367) C dX9_grinds_367 w_X9_112 f_10_59 (by decide) ?_
                  refine zs_iload_n (pc := 370) C dX9_grinds_370 rfl ?_
                  refine zs_aload_n (pc := 371) C dX9_grinds_371 rfl ?_
                  refine zs_getf (pc := 372) C dX9_grinds_372 w_X9_112 f_10_59 (by decide) ?_
                  refine zs_iload_n (pc := 375) C dX9_grinds_375 rfl ?_
                  refine zs_iald (r := 2089) (pc := 376) C dX9_grinds_376 a_89 (by decide) (by omega) rfl (r_2089 _) (fun v376 e376 l376 u376 => ?_)
                  try simp only [zuI_1, zuI_2, zuJ_1, zuJ_2, zuJ_3, zuP_1, zuP_2, zuP_3, zuC_1, zuC_2, reduceIte, Nat.reduceEqDiff, false_and, and_false, true_and, and_true, and_self, or_true, true_or, or_false, false_or] at e376
                  refine zs_iload (pc := 377) C dX9_grinds_377 rfl ?_
                  first | refine zs_iadd (pc := 379) C dX9_grinds_379 (by omega) ?_ | refine zs_iaddF (pc := 379) C dX9_grinds_379 (fun z379 hz3791 hz3792 => ?_)
                  refine zs_ldc (n := 99999) (pc := 380) C dX9_grinds_380 q_X9_216 (by decide) (by decide) ?_
                  refine zs_icmp_le (tgt := 390) (pc := 382) C dX9_grinds_382 (by decide) (fun h382 => ?_) (fun h382 => ?_)
                  · skip
                    refine zs_aload_n (pc := 390) C dX9_grinds_390 rfl ?_
                    refine zs_getf (pc := 391) C dX9_grinds_391 w_X9_112 f_10_59 (by decide) ?_
                    refine zs_iload_n (pc := 394) C dX9_grinds_394 rfl ?_
                    refine zs_iald (r := 2089) (pc := 395) C dX9_grinds_395 a_89 (by decide) (by omega) rfl (r_2089 _) (fun v395 e395 l395 u395 => ?_)
                    try simp only [zuI_1, zuI_2, zuJ_1, zuJ_2, zuJ_3, zuP_1, zuP_2, zuP_3, zuC_1, zuC_2, reduceIte, Nat.reduceEqDiff, false_and, and_false, true_and, and_true, and_self, or_true, true_or, or_false, false_or] at e395
                    refine zs_iload (pc := 396) C dX9_grinds_396 rfl ?_
                    first | refine zs_iadd (pc := 398) C dX9_grinds_398 (by omega) ?_ | refine zs_iaddF (pc := 398) C dX9_grinds_398 (fun z398 hz3981 hz3982 => ?_)
                    refine zs_iast (r := 2089) (pc := 399) C dX9_grinds_399 a_89 (by decide) (by omega) rfl (r_2089 _) (by omega) ?_
                    exact zs_wk (J400 _ (by repeat (first | exact zsm_rf | assumption | refine zsm_C (by decide) ?_ | refine zsm_I (by decide) ?_ | refine zsm_J ?_ | refine zsm_c (by assumption) (by decide) ?_)) (by with_reducible repeat (first | exact RO_rf | assumption | refine RO_0 (by decide) ?_ | refine RO_n 20 (by decide) (by omega) ?_ | refine RO_n 5 (by decide) (by omega) ?_ | refine RO_n 60 (by decide) (by omega) ?_ | refine RO_n 1 (by decide) (by omega) ?_ | refine RO_J (by decide) ?_ | refine RO_c (by assumption) ?_))) (zwk_s rfl (zwk_s rfl (zwk_s rfl (zwk_s rfl (zwk_s rfl (zwk_s rfl (zwk_s rfl (zwk_s rfl (zwk_n zwk_0)))))))))
                  · skip
                    refine zs_ldc (n := 99999) (pc := 385) C dX9_grinds_385 q_X9_216 (by decide) (by decide) ?_
                    refine zs_goto (tgt := 399) (pc := 387) C dX9_grinds_387 (by decide) ?_
                    refine zs_iast (r := 2089) (pc := 399) C dX9_grinds_399 a_89 (by decide) (by omega) rfl (r_2089 _) (by omega) ?_
                    exact zs_wk (J400 _ (by repeat (first | exact zsm_rf | assumption | refine zsm_C (by decide) ?_ | refine zsm_I (by decide) ?_ | refine zsm_J ?_ | refine zsm_c (by assumption) (by decide) ?_)) (by with_reducible repeat (first | exact RO_rf | assumption | refine RO_0 (by decide) ?_ | refine RO_n 20 (by decide) (by omega) ?_ | refine RO_n 5 (by decide) (by omega) ?_ | refine RO_n 60 (by decide) (by omega) ?_ | refine RO_n 1 (by decide) (by omega) ?_ | refine RO_J (by decide) ?_ | refine RO_c (by assumption) ?_))) (zwk_s rfl (zwk_s rfl (zwk_s rfl (zwk_s rfl (zwk_s rfl (zwk_s rfl (zwk_s rfl (zwk_s rfl (zwk_n zwk_0)))))))))
            refine zs_if_eq (tgt := 338) (pc := 331) C dX9_grinds_331 (by decide) (fun h331 => ?_) (fun h331 => ?_)
            · skip
              refine zs_iconst (pc := 338) C dX9_grinds_338 (by decide) ?_
              first | refine zs_iadd (pc := 339) C dX9_grinds_339 (by omega) ?_ | refine zs_iaddF (pc := 339) C dX9_grinds_339 (fun z339 hz3391 hz3392 => ?_)
              refine zs_iast (r := 2084) (pc := 340) C dX9_grinds_340 a_84 (by decide) (by omega) rfl (r_2084 _) (by omega) ?_
              exact zs_wk (J341 _ (by repeat (first | exact zsm_rf | assumption | refine zsm_C (by decide) ?_ | refine zsm_I (by decide) ?_ | refine zsm_J ?_ | refine zsm_c (by assumption) (by decide) ?_)) (by with_reducible repeat (first | exact RO_rf | assumption | refine RO_0 (by decide) ?_ | refine RO_n 20 (by decide) (by omega) ?_ | refine RO_n 5 (by decide) (by omega) ?_ | refine RO_n 60 (by decide) (by omega) ?_ | refine RO_n 1 (by decide) (by omega) ?_ | refine RO_J (by decide) ?_ | refine RO_c (by assumption) ?_))) (zwk_s rfl (zwk_s rfl (zwk_s rfl (zwk_s rfl (zwk_s rfl (zwk_s rfl (zwk_s rfl (zwk_s rfl (zwk_n zwk_0)))))))))
            · skip
              refine zs_iconst (pc := 334) C dX9_grinds_334 (by decide) ?_
              refine zs_goto (tgt := 339) (pc := 335) C dX9_grinds_335 (by decide) ?_
              first | refine zs_iadd (pc := 339) C dX9_grinds_339 (by omega) ?_ | refine zs_iaddF (pc := 339) C dX9_grinds_339 (fun z339 hz3391 hz3392 => ?_)
              refine zs_iast (r := 2084) (pc := 340) C dX9_grinds_340 a_84 (by decide) (by omega) rfl (r_2084 _) (by omega) ?_
              exact zs_wk (J341 _ (by repeat (first | exact zsm_rf | assumption | refine zsm_C (by decide) ?_ | refine zsm_I (by decide) ?_ | refine zsm_J ?_ | refine zsm_c (by assumption) (by decide) ?_)) (by with_reducible repeat (first | exact RO_rf | assumption | refine RO_0 (by decide) ?_ | refine RO_n 20 (by decide) (by omega) ?_ | refine RO_n 5 (by decide) (by omega) ?_ | refine RO_n 60 (by decide) (by omega) ?_ | refine RO_n 1 (by decide) (by omega) ?_ | refine RO_J (by decide) ?_ | refine RO_c (by assumption) ?_))) (zwk_s rfl (zwk_s rfl (zwk_s rfl (zwk_s rfl (zwk_s rfl (zwk_s rfl (zwk_s rfl (zwk_s rfl (zwk_n zwk_0)))))))))
          refine zs_if_eq (tgt := 315) (pc := 308) C dX9_grinds_308 (by decide) (fun h308 => ?_) (fun h308 => ?_)
          · skip
            refine zs_iconst (pc := 315) C dX9_grinds_315 (by decide) ?_
            first | refine zs_iadd (pc := 316) C dX9_grinds_316 (by omega) ?_ | refine zs_iaddF (pc := 316) C dX9_grinds_316 (fun z316 hz3161 hz3162 => ?_)
            refine zs_iast (r := 2082) (pc := 317) C dX9_grinds_317 a_82 (by decide) (by omega) rfl (r_2082 _) (by omega) ?_
            exact zs_wk (J318 _ (by repeat (first | exact zsm_rf | assumption | refine zsm_C (by decide) ?_ | refine zsm_I (by decide) ?_ | refine zsm_J ?_ | refine zsm_c (by assumption) (by decide) ?_)) (by with_reducible repeat (first | exact RO_rf | assumption | refine RO_0 (by decide) ?_ | refine RO_n 20 (by decide) (by omega) ?_ | refine RO_n 5 (by decide) (by omega) ?_ | refine RO_n 60 (by decide) (by omega) ?_ | refine RO_n 1 (by decide) (by omega) ?_ | refine RO_J (by decide) ?_ | refine RO_c (by assumption) ?_))) (zwk_s rfl (zwk_s rfl (zwk_s rfl (zwk_s rfl (zwk_s rfl (zwk_s rfl (zwk_s rfl (zwk_s rfl (zwk_n zwk_0)))))))))
          · skip
            refine zs_iconst (pc := 311) C dX9_grinds_311 (by decide) ?_
            refine zs_goto (tgt := 316) (pc := 312) C dX9_grinds_312 (by decide) ?_
            first | refine zs_iadd (pc := 316) C dX9_grinds_316 (by omega) ?_ | refine zs_iaddF (pc := 316) C dX9_grinds_316 (fun z316 hz3161 hz3162 => ?_)
            refine zs_iast (r := 2082) (pc := 317) C dX9_grinds_317 a_82 (by decide) (by omega) rfl (r_2082 _) (by omega) ?_
            exact zs_wk (J318 _ (by repeat (first | exact zsm_rf | assumption | refine zsm_C (by decide) ?_ | refine zsm_I (by decide) ?_ | refine zsm_J ?_ | refine zsm_c (by assumption) (by decide) ?_)) (by with_reducible repeat (first | exact RO_rf | assumption | refine RO_0 (by decide) ?_ | refine RO_n 20 (by decide) (by omega) ?_ | refine RO_n 5 (by decide) (by omega) ?_ | refine RO_n 60 (by decide) (by omega) ?_ | refine RO_n 1 (by decide) (by omega) ?_ | refine RO_J (by decide) ?_ | refine RO_c (by assumption) ?_))) (zwk_s rfl (zwk_s rfl (zwk_s rfl (zwk_s rfl (zwk_s rfl (zwk_s rfl (zwk_s rfl (zwk_s rfl (zwk_n zwk_0)))))))))
        refine zs_if_ne (tgt := 259) (pc := 149) C dX9_grinds_149 (by decide) (fun h149 => ?_) (fun h149 => ?_)
        · skip
          exact zs_wk (J259 _ (by repeat (first | exact zsm_rf | assumption | refine zsm_C (by decide) ?_ | refine zsm_I (by decide) ?_ | refine zsm_J ?_ | refine zsm_c (by assumption) (by decide) ?_)) (by first | omega | (simp only [zuI_1, zuI_2, zuJ_1, zuJ_2, zuJ_3, zuP_1, zuP_2, zuP_3, zuC_1, zuC_2, reduceIte, Nat.reduceEqDiff, false_and, and_false, true_and, and_true, and_self, or_true, true_or, or_false, false_or]; omega)) (by with_reducible repeat (first | exact RO_rf | assumption | refine RO_0 (by decide) ?_ | refine RO_n 20 (by decide) (by omega) ?_ | refine RO_n 5 (by decide) (by omega) ?_ | refine RO_n 60 (by decide) (by omega) ?_ | refine RO_n 1 (by decide) (by omega) ?_ | refine RO_J (by decide) ?_ | refine RO_c (by assumption) ?_))) (zwk_s rfl (zwk_s rfl (zwk_s rfl (zwk_s rfl (zwk_s rfl (zwk_s rfl (zwk_s rfl (zwk_s rfl (zwk_n zwk_0)))))))))
        · skip
          exfalso; omega
      refine zs_if_eq (tgt := 146) (pc := 139) C dX9_grinds_139 (by decide) (fun h139 => ?_) (fun h139 => ?_)
      · skip
        refine zs_iconst (pc := 146) C dX9_grinds_146 (by decide) ?_
        refine zs_iast (r := 2095) (pc := 147) C dX9_grinds_147 a_95 (by decide) (by omega) rfl (r_2095 _) (by omega) ?_
        exact zs_wk (J148 _ (by repeat (first | exact zsm_rf | assumption | refine zsm_C (by decide) ?_ | refine zsm_I (by decide) ?_ | refine zsm_J ?_ | refine zsm_c (by assumption) (by decide) ?_)) (by first | omega | (simp only [zuI_1, zuI_2, zuJ_1, zuJ_2, zuJ_3, zuP_1, zuP_2, zuP_3, zuC_1, zuC_2, reduceIte, Nat.reduceEqDiff, false_and, and_false, true_and, and_true, and_self, or_true, true_or, or_false, false_or]; omega)) (by with_reducible repeat (first | exact RO_rf | assumption | refine RO_0 (by decide) ?_ | refine RO_n 20 (by decide) (by omega) ?_ | refine RO_n 5 (by decide) (by omega) ?_ | refine RO_n 60 (by decide) (by omega) ?_ | refine RO_n 1 (by decide) (by omega) ?_ | refine RO_J (by decide) ?_ | refine RO_c (by assumption) ?_))) (zwk_s rfl (zwk_s rfl (zwk_s rfl (zwk_s rfl (zwk_s rfl (zwk_s rfl (zwk_s rfl (zwk_s rfl (zwk_n zwk_0)))))))))
      · skip
        refine zs_iconst (pc := 142) C dX9_grinds_142 (by decide) ?_
        refine zs_goto (tgt := 147) (pc := 143) C dX9_grinds_143 (by decide) ?_
        refine zs_iast (r := 2095) (pc := 147) C dX9_grinds_147 a_95 (by decide) (by omega) rfl (r_2095 _) (by omega) ?_
        exact zs_wk (J148 _ (by repeat (first | exact zsm_rf | assumption | refine zsm_C (by decide) ?_ | refine zsm_I (by decide) ?_ | refine zsm_J ?_ | refine zsm_c (by assumption) (by decide) ?_)) (by first | omega | (simp only [zuI_1, zuI_2, zuJ_1, zuJ_2, zuJ_3, zuP_1, zuP_2, zuP_3, zuC_1, zuC_2, reduceIte, Nat.reduceEqDiff, false_and, and_false, true_and, and_true, and_self, or_true, true_or, or_false, false_or]; omega)) (by with_reducible repeat (first | exact RO_rf | assumption | refine RO_0 (by decide) ?_ | refine RO_n 20 (by decide) (by omega) ?_ | refine RO_n 5 (by decide) (by omega) ?_ | refine RO_n 60 (by decide) (by omega) ?_ | refine RO_n 1 (by decide) (by omega) ?_ | refine RO_J (by decide) ?_ | refine RO_c (by assumption) ?_))) (zwk_s rfl (zwk_s rfl (zwk_s rfl (zwk_s rfl (zwk_s rfl (zwk_s rfl (zwk_s rfl (zwk_s rfl (zwk_n zwk_0)))))))))
    refine zs_icmp_ge (tgt := 119) (pc := 107) C dX9_grinds_107 (by decide) (fun h107 => ?_) (fun h107 => ?_)
    · skip
      refine zs_aload_n (pc := 119) C dX9_grinds_119 rfl ?_
      refine zs_getf (pc := 120) C dX9_grinds_120 w_X9_20 f_10_22 (by decide) ?_
      refine zs_iconst (pc := 123) C dX9_grinds_123 (by decide) ?_
      refine zs_iald (r := 2059) (pc := 124) C dX9_grinds_124 a_59 (by decide) (by omega) rfl (show zrg 2059 (1 : Int).toNat = (0, 99) from rfl) (fun v124 e124 l124 u124 => ?_)
      try simp only [zuI_1, zuI_2, zuJ_1, zuJ_2, zuJ_3, zuP_1, zuP_2, zuP_3, zuC_1, zuC_2, reduceIte, Nat.reduceEqDiff, false_and, and_false, true_and, and_true, and_self, or_true, true_or, or_false, false_or] at e124
      refine zs_iast (r := 2094) (pc := 125) C dX9_grinds_125 a_94 (by decide) (by omega) rfl (r_2094 _) (by omega) ?_
      exact zs_wk (J126 _ (by repeat (first | exact zsm_rf | assumption | refine zsm_C (by decide) ?_ | refine zsm_I (by decide) ?_ | refine zsm_J ?_ | refine zsm_c (by assumption) (by decide) ?_)) (by first | omega | (simp only [zuI_1, zuI_2, zuJ_1, zuJ_2, zuJ_3, zuP_1, zuP_2, zuP_3, zuC_1, zuC_2, reduceIte, Nat.reduceEqDiff, false_and, and_false, true_and, and_true, and_self, or_true, true_or, or_false, false_or]; omega)) (by with_reducible repeat (first | exact RO_rf | assumption | refine RO_0 (by decide) ?_ | refine RO_n 20 (by decide) (by omega) ?_ | refine RO_n 5 (by decide) (by omega) ?_ | refine RO_n 60 (by decide) (by omega) ?_ | refine RO_n 1 (by decide) (by omega) ?_ | refine RO_J (by decide) ?_ | refine RO_c (by assumption) ?_))) (zwk_s rfl (zwk_s rfl (zwk_s rfl (zwk_s rfl (zwk_s rfl (zwk_s rfl (zwk_s rfl (zwk_s rfl (zwk_n zwk_0)))))))))
    · skip
      refine zs_aload_n (pc := 110) C dX9_grinds_110 rfl ?_
      refine zs_getf (pc := 111) C dX9_grinds_111 w_X9_109 f_10_58 (by decide) ?_
      refine zs_iload_n (pc := 114) C dX9_grinds_114 rfl ?_
      refine zs_iald (r := 2088) (pc := 115) C dX9_grinds_115 a_88 (by decide) (by omega) rfl (r_2088 _) (fun v115 e115 l115 u115 => ?_)
      try simp only [zuI_1, zuI_2, zuJ_1, zuJ_2, zuJ_3, zuP_1, zuP_2, zuP_3, zuC_1, zuC_2, reduceIte, Nat.reduceEqDiff, false_and, and_false, true_and, and_true, and_self, or_true, true_or, or_false, false_or] at e115
      refine zs_goto (tgt := 125) (pc := 116) C dX9_grinds_116 (by decide) ?_
      refine zs_iast (r := 2094) (pc := 125) C dX9_grinds_125 a_94 (by decide) (by omega) rfl (r_2094 _) (by omega) ?_
      exact zs_wk (J126 _ (by repeat (first | exact zsm_rf | assumption | refine zsm_C (by decide) ?_ | refine zsm_I (by decide) ?_ | refine zsm_J ?_ | refine zsm_c (by assumption) (by decide) ?_)) (by first | omega | (simp only [zuI_1, zuI_2, zuJ_1, zuJ_2, zuJ_3, zuP_1, zuP_2, zuP_3, zuC_1, zuC_2, reduceIte, Nat.reduceEqDiff, false_and, and_false, true_and, and_true, and_self, or_true, true_or, or_false, false_or]; omega)) (by with_reducible repeat (first | exact RO_rf | assumption | refine RO_0 (by decide) ?_ | refine RO_n 20 (by decide) (by omega) ?_ | refine RO_n 5 (by decide) (by omega) ?_ | refine RO_n 60 (by decide) (by omega) ?_ | refine RO_n 1 (by decide) (by omega) ?_ | refine RO_J (by decide) ?_ | refine RO_c (by assumption) ?_))) (zwk_s rfl (zwk_s rfl (zwk_s rfl (zwk_s rfl (zwk_s rfl (zwk_s rfl (zwk_s rfl (zwk_s rfl (zwk_n zwk_0)))))))))
  refine zs_if_ne (tgt := 33) (pc := 26) C dX9_grinds_26 (by decide) (fun h26 => ?_) (fun h26 => ?_)
  · skip
    refine zs_iconst (pc := 33) C dX9_grinds_33 (by decide) ?_
    refine zs_istore (pc := 34) C dX9_grinds_34 (by decide) ?_
    dsimp only [zset, zclr, znone]
    exact zs_wk (J36 _ (by first | omega | (simp only [zuI_1, zuI_2, zuJ_1, zuJ_2, zuJ_3, zuP_1, zuP_2, zuP_3, zuC_1, zuC_2, reduceIte, Nat.reduceEqDiff, false_and, and_false, true_and, and_true, and_self, or_true, true_or, or_false, false_or]; omega))) (zwk_s rfl (zwk_s rfl (zwk_s rfl (zwk_s rfl (zwk_s rfl (zwk_s rfl (zwk_s rfl (zwk_n (zwk_n zwk_0)))))))))
  · skip
    refine zs_iconst (pc := 29) C dX9_grinds_29 (by decide) ?_
    refine zs_goto (tgt := 34) (pc := 30) C dX9_grinds_30 (by decide) ?_
    refine zs_istore (pc := 34) C dX9_grinds_34 (by decide) ?_
    dsimp only [zset, zclr, znone]
    exact zs_wk (J36 _ (by first | omega | (simp only [zuI_1, zuI_2, zuJ_1, zuJ_2, zuJ_3, zuP_1, zuP_2, zuP_3, zuC_1, zuC_2, reduceIte, Nat.reduceEqDiff, false_and, and_false, true_and, and_true, and_self, or_true, true_or, or_false, false_or]; omega))) (zwk_s rfl (zwk_s rfl (zwk_s rfl (zwk_s rfl (zwk_s rfl (zwk_s rfl (zwk_s rfl (zwk_n (zwk_n zwk_0)))))))))

set_option maxHeartbeats 4000000 in
set_option maxRecDepth 100000 in
theorem c_X9_fallsByO {l : Launch} {Γ : zΓ} {G : zH} {w : Nat} {c0 n : Int} (hX : zXs Γ) (hM : MI Γ w G)(hc : 0 ≤ c0 ∧ c0 ≤ 4)(hn : 0 ≤ n ∧ n ≤ 4)(hrw : ∀ i : Nat, i < 4 → G.1 2101 (Γ.2.1 w 76) i ≤ 19) : zMet l Γ yX9_fallsBy cX9_fallsBy 6 (some .int) 6 [zr 10 w, zi c0, zi n] G (zpi (fun x G' => zsm [2091, 2092, 2093, 2094, 2095, 2088, 2087, 2082, 2084, 2083, 2089, 1050, 2081, 2085, 2086, 2090, 1072, 1073, 1074] G G' ∧ RO G G' ∧ True)) := by
  refine zMet_of RX9 hX (by decide) rfl (Nat.le_of_ble_eq_true rfl) ?_
  intro p e s m args below meth c C hr hlk
  show Z p l e (zrm 6) s m args below meth c Γ 6 0 0 (MQ below (zQc Γ (zpi (fun x G' => zsm [2091, 2092, 2093, 2094, 2095, 2088, 2087, 2082, 2084, 2083, 2089, 1050, 2081, 2085, 2086, 2090, 1072, 1073, 1074] G G' ∧ RO G G' ∧ True))) args s 0 0 (zA Γ)) 0 [some (zr 10 w), some (zi c0), some (zi n), none, none, none] [] G
  refine zs_loc 1 rfl (fun ha1 hb1 => ?_)
  refine zs_loc 2 rfl (fun ha2 hb2 => ?_)
  refine zs_aload_n (pc := 0) C dX9_fallsBy_0 rfl ?_
  refine zVv0 (pc := 1) C dX9_fallsBy_1 v_X9_495 (c_X9_layTriedO hX ) (by decide) (by decide) ⟨Nat.zero_le _, Nat.zero_le _⟩ (Nat.le_of_ble_eq_true rfl) (fun G1 hp1 => ?_)
  obtain ⟨hz1, lo1, hq1⟩ := hp1
  refine zs_iconst (pc := 4) C dX9_fallsBy_4 (by decide) ?_
  refine zs_istore_n (pc := 5) C dX9_fallsBy_5 (by decide) ?_
  dsimp only [zset, zclr, znone]
  refine zs_iconst (pc := 6) C dX9_fallsBy_6 (by decide) ?_
  refine zs_istore (pc := 7) C dX9_fallsBy_7 (by decide) ?_
  dsimp only [zset, zclr, znone]
  have L9 : ∀ (nn : Nat) (x3 x4 : Int) (G1 : zH), (0 ≤ x4 ∧ x4 ≤ n) → (zsm [2091, 2092, 2093, 2094, 2095, 2088, 2087, 2082, 2084, 2083, 2089, 1050, 2081, 2085, 2086, 2090, 1072, 1073, 1074] G G1) → (RO G G1) → (n - x4).toNat < nn → Z p l e (zrm 6) s m args below meth c Γ 6 0 0 (MQ below (zQc Γ (zpi (fun x G' => zsm [2091, 2092, 2093, 2094, 2095, 2088, 2087, 2082, 2084, 2083, 2089, 1050, 2081, 2085, 2086, 2090, 1072, 1073, 1074] G G' ∧ RO G G' ∧ True))) args s 0 0 (zA Γ)) 9 [some (zr 10 w), some (zi c0), some (zi n), some (zi x3), some (zi x4), none] [] G1 := by
    intro nn
    induction nn with
    | zero => intro x3 x4 G1 h9_0 h9_1 h9_2 hm; exact absurd hm (Nat.not_lt_zero _)
    | succ nn ih9 =>
      intro x3 x4 G1 h9_0 h9_1 h9_2 hm9
      refine zs_iload (pc := 9) C dX9_fallsBy_9 rfl ?_
      refine zs_iload_n (pc := 11) C dX9_fallsBy_11 rfl ?_
      refine zs_icmp_ge (tgt := 112) (pc := 12) C dX9_fallsBy_12 (by decide) (fun h12 => ?_) (fun h12 => ?_)
      · skip
        refine zs_aload_n (pc := 112) C dX9_fallsBy_112 rfl ?_
        refine zs_iconst (pc := 113) C dX9_fallsBy_113 (by decide) ?_
        refine zs_aload_n (pc := 114) C dX9_fallsBy_114 rfl ?_
        refine zs_getf (pc := 115) C dX9_fallsBy_115 w_X9_45 f_10_30 (by decide) ?_
        refine zs_iload_n (pc := 118) C dX9_fallsBy_118 rfl ?_
        refine zs_iald (r := 2067) (pc := 119) C dX9_fallsBy_119 a_67 (by decide) (by omega) rfl (r_2067 _) (fun v119 e119 l119 u119 => ?_)
        refine zVip2 (pc := 120) C dX9_fallsBy_120 v_X9_468 (c_X9_flourOf hX (by omega)) (by decide) (by decide) ⟨Nat.zero_le _, Nat.zero_le _⟩ (Nat.le_of_ble_eq_true rfl) (fun x120 l120 u120 hp120 => ?_)
        have hq120 := hp120
        refine zs_aload_n (pc := 123) C dX9_fallsBy_123 rfl ?_
        refine zs_getf (pc := 124) C dX9_fallsBy_124 w_X9_48 f_10_31 (by decide) ?_
        refine zs_iload_n (pc := 127) C dX9_fallsBy_127 rfl ?_
        refine zs_iald (r := 2068) (pc := 128) C dX9_fallsBy_128 a_68 (by decide) (by omega) rfl (r_2068 _) (fun v128 e128 l128 u128 => ?_)
        refine zs_icmp_lt (tgt := 136) (pc := 129) C dX9_fallsBy_129 (by decide) (fun h129 => ?_) (fun h129 => ?_)
        · skip
          refine zs_iconst (pc := 136) C dX9_fallsBy_136 (by decide) ?_
          exact zs_iret (pc := 137) C hr hlk dX9_fallsBy_137 ⟨by repeat (first | exact zsm_rf | assumption | refine zsm_C (by decide) ?_ | refine zsm_I (by decide) ?_ | refine zsm_J ?_ | refine zsm_c (by assumption) (by decide) ?_), (by with_reducible repeat (first | exact RO_rf | assumption | refine RO_0 (by decide) ?_ | refine RO_n 20 (by decide) (by omega) ?_ | refine RO_n 5 (by decide) (by omega) ?_ | refine RO_n 60 (by decide) (by omega) ?_ | refine RO_n 1 (by decide) (by omega) ?_ | refine RO_J (by decide) ?_ | refine RO_c (by assumption) ?_)), trivial⟩
        · skip
          refine zs_iload_n (pc := 132) C dX9_fallsBy_132 rfl ?_
          refine zs_goto (tgt := 137) (pc := 133) C dX9_fallsBy_133 (by decide) ?_
          exact zs_iret (pc := 137) C hr hlk dX9_fallsBy_137 ⟨by repeat (first | exact zsm_rf | assumption | refine zsm_C (by decide) ?_ | refine zsm_I (by decide) ?_ | refine zsm_J ?_ | refine zsm_c (by assumption) (by decide) ?_), (by with_reducible repeat (first | exact RO_rf | assumption | refine RO_0 (by decide) ?_ | refine RO_n 20 (by decide) (by omega) ?_ | refine RO_n 5 (by decide) (by omega) ?_ | refine RO_n 60 (by decide) (by omega) ?_ | refine RO_n 1 (by decide) (by omega) ?_ | refine RO_J (by decide) ?_ | refine RO_c (by assumption) ?_)), trivial⟩
      · skip
        refine zs_aload_n (pc := 15) C dX9_fallsBy_15 rfl ?_
        refine zs_iconst (pc := 16) C dX9_fallsBy_16 (by decide) ?_
        refine zVip1 (pc := 17) C dX9_fallsBy_17 v_X9_439 (c_X9_canGrind hX (by omega)) (by decide) (by decide) ⟨Nat.zero_le _, Nat.zero_le _⟩ (Nat.le_of_ble_eq_true rfl) (fun x17 l17 u17 hp17 => ?_)
        have hq17 := hp17
        refine zs_if_ne (tgt := 25) (pc := 20) C dX9_fallsBy_20 (by decide) (fun h20 => ?_) (fun h20 => ?_)
        · skip
          have hrr := hrw x4.toNat (by omega)
          have t2101 := zsm_at h9_1 2101 (Γ.2.1 w 76) x4.toNat (by decide)
          refine zs_bipush (pc := 25) C dX9_fallsBy_25 (by decide) (by decide) ?_
          refine zs_aload_n (pc := 27) C dX9_fallsBy_27 rfl ?_
          refine zs_getf (pc := 28) C dX9_fallsBy_28 w_X9_151 f_10_76 (by decide) ?_
          refine zs_iload (pc := 31) C dX9_fallsBy_31 rfl ?_
          refine zs_iald (r := 2101) (pc := 33) C dX9_fallsBy_33 a_101 (by decide) (by omega) rfl (r_2101 _) (fun v33 e33 l33 u33 => ?_)
          first | refine zs_iadd (pc := 34) C dX9_fallsBy_34 (by omega) ?_ | refine zs_iaddF (pc := 34) C dX9_fallsBy_34 (fun z34 hz341 hz342 => ?_)
          refine zs_istore (pc := 35) C dX9_fallsBy_35 (by decide) ?_
          dsimp only [zset, zclr, znone]
          refine zs_aload_n (pc := 37) C dX9_fallsBy_37 rfl ?_
          refine zs_getf (pc := 38) C dX9_fallsBy_38 w_X9_88 f_10_51 (by decide) ?_
          refine zs_iload (pc := 41) C dX9_fallsBy_41 rfl ?_
          refine zs_iald (r := 2081) (pc := 43) C dX9_fallsBy_43 a_81 (by decide) (by omega) rfl (r_2081 _) (fun v43 e43 l43 u43 => ?_)
          refine zs_aload_n (pc := 44) C dX9_fallsBy_44 rfl ?_
          refine zs_getf (pc := 45) C dX9_fallsBy_45 w_X9_91 f_10_52 (by decide) ?_
          refine zs_iload (pc := 48) C dX9_fallsBy_48 rfl ?_
          refine zs_iald (r := 2082) (pc := 50) C dX9_fallsBy_50 a_82 (by decide) (by omega) rfl (r_2082 _) (fun v50 e50 l50 u50 => ?_)
          refine zs_icmp_ne (tgt := 82) (pc := 51) C dX9_fallsBy_51 (by decide) (fun h51 => ?_) (fun h51 => ?_)
          · skip
            refine zs_aload_n (pc := 82) C dX9_fallsBy_82 rfl ?_
            refine zs_iconst (pc := 83) C dX9_fallsBy_83 (by decide) ?_
            refine zs_aload_n (pc := 84) C dX9_fallsBy_84 rfl ?_
            refine zs_getf (pc := 85) C dX9_fallsBy_85 w_X9_151 f_10_76 (by decide) ?_
            refine zs_iload (pc := 88) C dX9_fallsBy_88 rfl ?_
            refine zs_iald (r := 2101) (pc := 90) C dX9_fallsBy_90 a_101 (by decide) (by omega) rfl (r_2101 _) (fun v90 e90 l90 u90 => ?_)
            refine zs_iconst (pc := 91) C dX9_fallsBy_91 (by decide) ?_
            first | refine zs_idiv (pc := 92) C dX9_fallsBy_92 (by omega) (by omega) (fun hz921 hz922 => ?_) | refine zs_idivF (pc := 92) C dX9_fallsBy_92 (by omega) (fun z92 hz921 hz922 => ?_)
            refine zs_aload_n (pc := 93) C dX9_fallsBy_93 rfl ?_
            refine zs_getf (pc := 94) C dX9_fallsBy_94 w_X9_151 f_10_76 (by decide) ?_
            refine zs_iload (pc := 97) C dX9_fallsBy_97 rfl ?_
            refine zs_iald (r := 2101) (pc := 99) C dX9_fallsBy_99 a_101 (by decide) (by omega) rfl (r_2101 _) (fun v99 e99 l99 u99 => ?_)
            refine zs_iconst (pc := 100) C dX9_fallsBy_100 (by decide) ?_
            first | refine zs_irem (pc := 101) C dX9_fallsBy_101 (by omega) (by omega) (fun hz1011 hz1012 => ?_) | refine zs_iremF (pc := 101) C dX9_fallsBy_101 (by omega) (fun z101 hz1011 hz1012 => ?_)
            refine zVi3 (pc := 102) C dX9_fallsBy_102 v_X9_445 (c_X9_grinds1O hX (by repeat (first | assumption | refine MI_I (by decide) ?_ | refine MI_J ?_ | refine MI_sm (by assumption) (by decide) ?_ | refine MI_sn (by assumption) (by decide) ?_)) (by omega) (by omega) (by omega) (by omega) (by omega)) (by decide) (by decide) ⟨Nat.zero_le _, Nat.zero_le _⟩ (Nat.le_of_ble_eq_true rfl) (fun x102 G102 l102 u102 hp102 => ?_)
            obtain ⟨hz102, lo102, hq102⟩ := hp102
            refine zs_popi (pc := 105) C dX9_fallsBy_105 ?_
            first | refine zs_iinc (pc := 106) C dX9_fallsBy_106 rfl (by decide) (by omega) ?_ | refine zs_iincF (pc := 106) C dX9_fallsBy_106 rfl (by decide) (fun z106 hz1061 hz1062 => ?_)
            dsimp only [zset, zclr, znone]
            refine zs_goto (tgt := 9) (pc := 109) C dX9_fallsBy_109 (by decide) ?_
            exact zs_wk (ih9 _ _ _ (by first | omega | (simp only [zuI_1, zuI_2, zuJ_1, zuJ_2, zuJ_3, zuP_1, zuP_2, zuP_3, zuC_1, zuC_2, reduceIte, Nat.reduceEqDiff, false_and, and_false, true_and, and_true, and_self, or_true, true_or, or_false, false_or]; omega)) (by repeat (first | exact zsm_rf | assumption | refine zsm_C (by decide) ?_ | refine zsm_I (by decide) ?_ | refine zsm_J ?_ | refine zsm_c (by assumption) (by decide) ?_)) (by with_reducible repeat (first | exact RO_rf | assumption | refine RO_0 (by decide) ?_ | refine RO_n 20 (by decide) (by omega) ?_ | refine RO_n 5 (by decide) (by omega) ?_ | refine RO_n 60 (by decide) (by omega) ?_ | refine RO_n 1 (by decide) (by omega) ?_ | refine RO_J (by decide) ?_ | refine RO_c (by assumption) ?_)) (by first | omega | (simp only [zuI_1, zuI_2, zuJ_1, zuJ_2, zuJ_3, zuP_1, zuP_2, zuP_3, zuC_1, zuC_2, reduceIte, Nat.reduceEqDiff, false_and, and_false, true_and, and_true, and_self, or_true, true_or, or_false, false_or]; omega))) (zwk_s rfl (zwk_s rfl (zwk_s rfl (zwk_s rfl (zwk_s rfl (zwk_n zwk_0))))))
          · skip
            refine zs_aload_n (pc := 54) C dX9_fallsBy_54 rfl ?_
            refine zs_getf (pc := 55) C dX9_fallsBy_55 w_X9_88 f_10_51 (by decide) ?_
            refine zs_iload (pc := 58) C dX9_fallsBy_58 rfl ?_
            refine zs_iald (r := 2081) (pc := 60) C dX9_fallsBy_60 a_81 (by decide) (by omega) rfl (r_2081 _) (fun v60 e60 l60 u60 => ?_)
            refine zs_bipush (pc := 61) C dX9_fallsBy_61 (by decide) (by decide) ?_
            refine zs_icmp_lt (tgt := 68) (pc := 63) C dX9_fallsBy_63 (by decide) (fun h63 => ?_) (fun h63 => ?_)
            · skip
              refine zs_aload_n (pc := 68) C dX9_fallsBy_68 rfl ?_
              refine zs_getf (pc := 69) C dX9_fallsBy_69 w_X9_88 f_10_51 (by decide) ?_
              refine zs_iload (pc := 72) C dX9_fallsBy_72 rfl ?_
              refine zs_dup2 (pc := 74) C dX9_fallsBy_74 ?_
              refine zs_iald (r := 2081) (pc := 75) C dX9_fallsBy_75 a_81 (by decide) (by omega) rfl (r_2081 _) (fun v75 e75 l75 u75 => ?_)
              refine zs_iconst (pc := 76) C dX9_fallsBy_76 (by decide) ?_
              first | refine zs_iadd (pc := 77) C dX9_fallsBy_77 (by omega) ?_ | refine zs_iaddF (pc := 77) C dX9_fallsBy_77 (fun z77 hz771 hz772 => ?_)
              refine zs_iast (r := 2081) (pc := 78) C dX9_fallsBy_78 a_81 (by decide) (by omega) rfl (r_2081 _) (by omega) ?_
              first | refine zs_iinc (pc := 79) C dX9_fallsBy_79 rfl (by decide) (by omega) ?_ | refine zs_iincF (pc := 79) C dX9_fallsBy_79 rfl (by decide) (fun z79 hz791 hz792 => ?_)
              dsimp only [zset, zclr, znone]
              refine zs_aload_n (pc := 82) C dX9_fallsBy_82 rfl ?_
              refine zs_iconst (pc := 83) C dX9_fallsBy_83 (by decide) ?_
              refine zs_aload_n (pc := 84) C dX9_fallsBy_84 rfl ?_
              refine zs_getf (pc := 85) C dX9_fallsBy_85 w_X9_151 f_10_76 (by decide) ?_
              refine zs_iload (pc := 88) C dX9_fallsBy_88 rfl ?_
              refine zs_iald (r := 2101) (pc := 90) C dX9_fallsBy_90 a_101 (by decide) (by omega) rfl (r_2101 _) (fun v90 e90 l90 u90 => ?_)
              try simp only [zuI_1, zuI_2, zuJ_1, zuJ_2, zuJ_3, zuP_1, zuP_2, zuP_3, zuC_1, zuC_2, reduceIte, Nat.reduceEqDiff, false_and, and_false, true_and, and_true, and_self, or_true, true_or, or_false, false_or] at e90
              refine zs_iconst (pc := 91) C dX9_fallsBy_91 (by decide) ?_
              first | refine zs_idiv (pc := 92) C dX9_fallsBy_92 (by omega) (by omega) (fun hz921 hz922 => ?_) | refine zs_idivF (pc := 92) C dX9_fallsBy_92 (by omega) (fun z92 hz921 hz922 => ?_)
              refine zs_aload_n (pc := 93) C dX9_fallsBy_93 rfl ?_
              refine zs_getf (pc := 94) C dX9_fallsBy_94 w_X9_151 f_10_76 (by decide) ?_
              refine zs_iload (pc := 97) C dX9_fallsBy_97 rfl ?_
              refine zs_iald (r := 2101) (pc := 99) C dX9_fallsBy_99 a_101 (by decide) (by omega) rfl (r_2101 _) (fun v99 e99 l99 u99 => ?_)
              try simp only [zuI_1, zuI_2, zuJ_1, zuJ_2, zuJ_3, zuP_1, zuP_2, zuP_3, zuC_1, zuC_2, reduceIte, Nat.reduceEqDiff, false_and, and_false, true_and, and_true, and_self, or_true, true_or, or_false, false_or] at e99
              refine zs_iconst (pc := 100) C dX9_fallsBy_100 (by decide) ?_
              first | refine zs_irem (pc := 101) C dX9_fallsBy_101 (by omega) (by omega) (fun hz1011 hz1012 => ?_) | refine zs_iremF (pc := 101) C dX9_fallsBy_101 (by omega) (fun z101 hz1011 hz1012 => ?_)
              refine zVi3 (pc := 102) C dX9_fallsBy_102 v_X9_445 (c_X9_grinds1O hX (by repeat (first | assumption | refine MI_I (by decide) ?_ | refine MI_J ?_ | refine MI_sm (by assumption) (by decide) ?_ | refine MI_sn (by assumption) (by decide) ?_)) (by first | omega | (simp only [zuI_1, zuI_2, zuJ_1, zuJ_2, zuJ_3, zuP_1, zuP_2, zuP_3, zuC_1, zuC_2, reduceIte, Nat.reduceEqDiff, false_and, and_false, true_and, and_true, and_self, or_true, true_or, or_false, false_or]; omega)) (by first | omega | (simp only [zuI_1, zuI_2, zuJ_1, zuJ_2, zuJ_3, zuP_1, zuP_2, zuP_3, zuC_1, zuC_2, reduceIte, Nat.reduceEqDiff, false_and, and_false, true_and, and_true, and_self, or_true, true_or, or_false, false_or]; omega)) (by first | omega | (simp only [zuI_1, zuI_2, zuJ_1, zuJ_2, zuJ_3, zuP_1, zuP_2, zuP_3, zuC_1, zuC_2, reduceIte, Nat.reduceEqDiff, false_and, and_false, true_and, and_true, and_self, or_true, true_or, or_false, false_or]; omega)) (by first | omega | (simp only [zuI_1, zuI_2, zuJ_1, zuJ_2, zuJ_3, zuP_1, zuP_2, zuP_3, zuC_1, zuC_2, reduceIte, Nat.reduceEqDiff, false_and, and_false, true_and, and_true, and_self, or_true, true_or, or_false, false_or]; omega)) (by first | omega | (simp only [zuI_1, zuI_2, zuJ_1, zuJ_2, zuJ_3, zuP_1, zuP_2, zuP_3, zuC_1, zuC_2, reduceIte, Nat.reduceEqDiff, false_and, and_false, true_and, and_true, and_self, or_true, true_or, or_false, false_or]; omega))) (by decide) (by decide) ⟨Nat.zero_le _, Nat.zero_le _⟩ (Nat.le_of_ble_eq_true rfl) (fun x102 G102 l102 u102 hp102 => ?_)
              obtain ⟨hz102, lo102, hq102⟩ := hp102
              try simp only [zuI_1, zuI_2, zuJ_1, zuJ_2, zuJ_3, zuP_1, zuP_2, zuP_3, zuC_1, zuC_2, reduceIte, Nat.reduceEqDiff, false_and, and_false, true_and, and_true, and_self, or_true, true_or, or_false, false_or] at hq102
              refine zs_popi (pc := 105) C dX9_fallsBy_105 ?_
              first | refine zs_iinc (pc := 106) C dX9_fallsBy_106 rfl (by decide) (by omega) ?_ | refine zs_iincF (pc := 106) C dX9_fallsBy_106 rfl (by decide) (fun z106 hz1061 hz1062 => ?_)
              dsimp only [zset, zclr, znone]
              refine zs_goto (tgt := 9) (pc := 109) C dX9_fallsBy_109 (by decide) ?_
              exact zs_wk (ih9 _ _ _ (by first | omega | (simp only [zuI_1, zuI_2, zuJ_1, zuJ_2, zuJ_3, zuP_1, zuP_2, zuP_3, zuC_1, zuC_2, reduceIte, Nat.reduceEqDiff, false_and, and_false, true_and, and_true, and_self, or_true, true_or, or_false, false_or]; omega)) (by repeat (first | exact zsm_rf | assumption | refine zsm_C (by decide) ?_ | refine zsm_I (by decide) ?_ | refine zsm_J ?_ | refine zsm_c (by assumption) (by decide) ?_)) (by with_reducible repeat (first | exact RO_rf | assumption | refine RO_0 (by decide) ?_ | refine RO_n 20 (by decide) (by omega) ?_ | refine RO_n 5 (by decide) (by omega) ?_ | refine RO_n 60 (by decide) (by omega) ?_ | refine RO_n 1 (by decide) (by omega) ?_ | refine RO_J (by decide) ?_ | refine RO_c (by assumption) ?_)) (by first | omega | (simp only [zuI_1, zuI_2, zuJ_1, zuJ_2, zuJ_3, zuP_1, zuP_2, zuP_3, zuC_1, zuC_2, reduceIte, Nat.reduceEqDiff, false_and, and_false, true_and, and_true, and_self, or_true, true_or, or_false, false_or]; omega))) (zwk_s rfl (zwk_s rfl (zwk_s rfl (zwk_s rfl (zwk_s rfl (zwk_n zwk_0))))))
            · skip
              refine zs_iconst (pc := 66) C dX9_fallsBy_66 (by decide) ?_
              exact zs_iret (pc := 67) C hr hlk dX9_fallsBy_67 ⟨by repeat (first | exact zsm_rf | assumption | refine zsm_C (by decide) ?_ | refine zsm_I (by decide) ?_ | refine zsm_J ?_ | refine zsm_c (by assumption) (by decide) ?_), (by with_reducible repeat (first | exact RO_rf | assumption | refine RO_0 (by decide) ?_ | refine RO_n 20 (by decide) (by omega) ?_ | refine RO_n 5 (by decide) (by omega) ?_ | refine RO_n 60 (by decide) (by omega) ?_ | refine RO_n 1 (by decide) (by omega) ?_ | refine RO_J (by decide) ?_ | refine RO_c (by assumption) ?_)), trivial⟩
        · skip
          refine zs_iconst (pc := 23) C dX9_fallsBy_23 (by decide) ?_
          exact zs_iret (pc := 24) C hr hlk dX9_fallsBy_24 ⟨by repeat (first | exact zsm_rf | assumption | refine zsm_C (by decide) ?_ | refine zsm_I (by decide) ?_ | refine zsm_J ?_ | refine zsm_c (by assumption) (by decide) ?_), (by with_reducible repeat (first | exact RO_rf | assumption | refine RO_0 (by decide) ?_ | refine RO_n 20 (by decide) (by omega) ?_ | refine RO_n 5 (by decide) (by omega) ?_ | refine RO_n 60 (by decide) (by omega) ?_ | refine RO_n 1 (by decide) (by omega) ?_ | refine RO_J (by decide) ?_ | refine RO_c (by assumption) ?_)), trivial⟩
  exact zs_wk (L9 _ _ _ _ (by first | omega | (simp only [zuI_1, zuI_2, zuJ_1, zuJ_2, zuJ_3, zuP_1, zuP_2, zuP_3, zuC_1, zuC_2, reduceIte, Nat.reduceEqDiff, false_and, and_false, true_and, and_true, and_self, or_true, true_or, or_false, false_or]; omega)) (by repeat (first | exact zsm_rf | assumption | refine zsm_C (by decide) ?_ | refine zsm_I (by decide) ?_ | refine zsm_J ?_ | refine zsm_c (by assumption) (by decide) ?_)) (by with_reducible repeat (first | exact RO_rf | assumption | refine RO_0 (by decide) ?_ | refine RO_n 20 (by decide) (by omega) ?_ | refine RO_n 5 (by decide) (by omega) ?_ | refine RO_n 60 (by decide) (by omega) ?_ | refine RO_n 1 (by decide) (by omega) ?_ | refine RO_J (by decide) ?_ | refine RO_c (by assumption) ?_)) (Nat.lt_succ_self _)) (zwk_s rfl (zwk_s rfl (zwk_s rfl (zwk_s rfl (zwk_s rfl (zwk_n zwk_0))))))

set_option maxHeartbeats 4000000 in
set_option maxRecDepth 100000 in
theorem c_X9_nextRowO {l : Launch} {Γ : zΓ} {G : zH} {w : Nat} {n : Int} (hX : zXs Γ) (hn : 0 ≤ n ∧ n ≤ 4)(hrw : ∀ i : Nat, i < 4 → G.1 2101 (Γ.2.1 w 76) i ≤ 19) : zMet l Γ yX9_nextRow cX9_nextRow 3 (some .boolean) 0 [zr 10 w, zi n] G (zpi (fun x G' => zsm [2101] G G' ∧ RO G G' ∧ ((x = 0 ∨ x = 1) ∧ (∀ i : Nat, i < 4 → G'.1 2101 (Γ.2.1 w 76) i ≤ 19) ∧ (x = 1 → zod 25 (G.1 2101 (Γ.2.1 w 76)) 4 < zod 25 (G'.1 2101 (Γ.2.1 w 76)) 4)))) := by
  refine zMet_of RX9 hX (by decide) rfl (Nat.le_of_ble_eq_true rfl) ?_
  intro p e s m args below meth c C hr hlk
  show Z p l e (zrm 0) s m args below meth c Γ 3 0 0 (MQ below (zQc Γ (zpi (fun x G' => zsm [2101] G G' ∧ RO G G' ∧ ((x = 0 ∨ x = 1) ∧ (∀ i : Nat, i < 4 → G'.1 2101 (Γ.2.1 w 76) i ≤ 19) ∧ (x = 1 → zod 25 (G.1 2101 (Γ.2.1 w 76)) 4 < zod 25 (G'.1 2101 (Γ.2.1 w 76)) 4))))) args s 0 0 (zA Γ)) 0 [some (zr 10 w), some (zi n), none] [] G
  refine zs_loc 1 rfl (fun ha1 hb1 => ?_)
  refine zs_good (fun hGd0 => ?_)
  refine zs_iload_n (pc := 0) C dX9_nextRow_0 rfl ?_
  refine zs_iconst (pc := 1) C dX9_nextRow_1 (by decide) ?_
  first | refine zs_isub (pc := 2) C dX9_nextRow_2 (by omega) ?_ | refine zs_isubF (pc := 2) C dX9_nextRow_2 (fun z2 hz21 hz22 => ?_)
  refine zs_istore_n (pc := 3) C dX9_nextRow_3 (by decide) ?_
  dsimp only [zset, zclr, znone]
  have L4 : ∀ (nn : Nat) (x2 : Int) (G1 : zH), (-1 ≤ x2 ∧ x2 ≤ 3) → (zsm [2101] G G1) → (∀ i : Nat, (i : Int) ≤ x2 → G1.1 2101 (Γ.2.1 w 76) i = G.1 2101 (Γ.2.1 w 76) i) → (∀ i : Nat, i < 4 → G1.1 2101 (Γ.2.1 w 76) i ≤ 19) → (RO G G1) → (x2 + 1).toNat < nn → Z p l e (zrm 0) s m args below meth c Γ 3 0 0 (MQ below (zQc Γ (zpi (fun x G' => zsm [2101] G G' ∧ RO G G' ∧ ((x = 0 ∨ x = 1) ∧ (∀ i : Nat, i < 4 → G'.1 2101 (Γ.2.1 w 76) i ≤ 19) ∧ (x = 1 → zod 25 (G.1 2101 (Γ.2.1 w 76)) 4 < zod 25 (G'.1 2101 (Γ.2.1 w 76)) 4))))) args s 0 0 (zA Γ)) 4 [some (zr 10 w), some (zi n), some (zi x2)] [] G1 := by
    intro nn
    induction nn with
    | zero => intro x2 G1 h4_0 h4_1 h4_2 h4_3 h4_4 hm; exact absurd hm (Nat.not_lt_zero _)
    | succ nn ih4 =>
      intro x2 G1 h4_0 h4_1 h4_2 h4_3 h4_4 hm4
      refine zs_iload_n (pc := 4) C dX9_nextRow_4 rfl ?_
      refine zs_if_lt (tgt := 86) (pc := 5) C dX9_nextRow_5 (by decide) (fun h5 => ?_) (fun h5 => ?_)
      · skip
        refine zs_iconst (pc := 86) C dX9_nextRow_86 (by decide) ?_
        exact zs_zret (pc := 87) C hr hlk dX9_nextRow_87 (by omega) ⟨by repeat (first | exact zsm_rf | assumption | refine zsm_C (by decide) ?_ | refine zsm_I (by decide) ?_ | refine zsm_J ?_ | refine zsm_c (by assumption) (by decide) ?_), (by with_reducible repeat (first | exact RO_rf | assumption | refine RO_0 (by decide) ?_ | refine RO_n 20 (by decide) (by omega) ?_ | refine RO_n 5 (by decide) (by omega) ?_ | refine RO_n 60 (by decide) (by omega) ?_ | refine RO_n 1 (by decide) (by omega) ?_ | refine RO_J (by decide) ?_ | refine RO_c (by assumption) ?_)), by first | exact ⟨by omega, hh2, fun _ => hh3⟩ | exact ⟨by omega, h4_3, fun q => absurd q (by omega)⟩⟩
      · skip
        refine zs_good (fun hGd1 => ?_)
        have hx2 : (x2.toNat : Int) = x2 := by omega
        have hk2 := h4_2 x2.toNat (by omega)
        have hk3 := h4_3 x2.toNat (by omega)
        refine zs_aload_n (pc := 8) C dX9_nextRow_8 rfl ?_
        refine zs_getf (pc := 9) C dX9_nextRow_9 w_X9_151 f_10_76 (by decide) ?_
        refine zs_iload_n (pc := 12) C dX9_nextRow_12 rfl ?_
        refine zs_dup2 (pc := 13) C dX9_nextRow_13 ?_
        refine zs_iald (r := 2101) (pc := 14) C dX9_nextRow_14 a_101 (by decide) (by omega) rfl (r_2101 _) (fun v14 e14 l14 u14 => ?_)
        refine zs_iconst (pc := 15) C dX9_nextRow_15 (by decide) ?_
        first | refine zs_iadd (pc := 16) C dX9_nextRow_16 (by omega) ?_ | refine zs_iaddF (pc := 16) C dX9_nextRow_16 (fun z16 hz161 hz162 => ?_)
        refine zs_iast (r := 2101) (pc := 17) C dX9_nextRow_17 a_101 (by decide) (by omega) rfl (r_2101 _) (by omega) ?_
        refine zs_aload_n (pc := 18) C dX9_nextRow_18 rfl ?_
        refine zs_getf (pc := 19) C dX9_nextRow_19 w_X9_151 f_10_76 (by decide) ?_
        refine zs_iload_n (pc := 22) C dX9_nextRow_22 rfl ?_
        refine zs_iald (r := 2101) (pc := 23) C dX9_nextRow_23 a_101 (by decide) (by omega) rfl (r_2101 _) (fun v23 e23 l23 u23 => ?_)
        try simp only [zuI_1, zuI_2, zuJ_1, zuJ_2, zuJ_3, zuP_1, zuP_2, zuP_3, zuC_1, zuC_2, reduceIte, Nat.reduceEqDiff, false_and, and_false, true_and, and_true, and_self, or_true, true_or, or_false, false_or] at e23
        refine zs_iconst (pc := 24) C dX9_nextRow_24 (by decide) ?_
        first | refine zs_irem (pc := 25) C dX9_nextRow_25 (by omega) (by omega) (fun hz251 hz252 => ?_) | refine zs_iremF (pc := 25) C dX9_nextRow_25 (by omega) (fun z25 hz251 hz252 => ?_)
        refine zs_aload_n (pc := 26) C dX9_nextRow_26 rfl ?_
        refine zs_geti (r := 1012) (pc := 27) C dX9_nextRow_27 w_X9_258 f_10_12 rfl (r_1012 0) (fun v27 e27 l27 u27 => ?_)
        try simp only [zuI_1, zuI_2, zuJ_1, zuJ_2, zuJ_3, zuP_1, zuP_2, zuP_3, zuC_1, zuC_2, reduceIte, Nat.reduceEqDiff, false_and, and_false, true_and, and_true, and_self, or_true, true_or, or_false, false_or] at e27
        refine zs_icmp_lt (tgt := 56) (pc := 30) C dX9_nextRow_30 (by decide) (fun h30 => ?_) (fun h30 => ?_)
        · skip
          refine zs_aload_n (pc := 56) C dX9_nextRow_56 rfl ?_
          refine zs_getf (pc := 57) C dX9_nextRow_57 w_X9_151 f_10_76 (by decide) ?_
          refine zs_iload_n (pc := 60) C dX9_nextRow_60 rfl ?_
          refine zs_iald (r := 2101) (pc := 61) C dX9_nextRow_61 a_101 (by decide) (by omega) rfl (r_2101 _) (fun v61 e61 l61 u61 => ?_)
          try simp only [zuI_1, zuI_2, zuJ_1, zuJ_2, zuJ_3, zuP_1, zuP_2, zuP_3, zuC_1, zuC_2, reduceIte, Nat.reduceEqDiff, false_and, and_false, true_and, and_true, and_self, or_true, true_or, or_false, false_or] at e61
          refine zs_iconst (pc := 62) C dX9_nextRow_62 (by decide) ?_
          refine zs_aload_n (pc := 63) C dX9_nextRow_63 rfl ?_
          refine zs_geti (r := 1013) (pc := 64) C dX9_nextRow_64 w_X9_261 f_10_13 rfl (r_1013 0) (fun v64 e64 l64 u64 => ?_)
          try simp only [zuI_1, zuI_2, zuJ_1, zuJ_2, zuJ_3, zuP_1, zuP_2, zuP_3, zuC_1, zuC_2, reduceIte, Nat.reduceEqDiff, false_and, and_false, true_and, and_true, and_self, or_true, true_or, or_false, false_or] at e64
          first | refine zs_imul (pc := 67) C dX9_nextRow_67 (by omega) ?_ | refine zs_imulF (pc := 67) C dX9_nextRow_67 (fun z67 hz671 hz672 => ?_)
          refine zs_icmp_ge (tgt := 73) (pc := 68) C dX9_nextRow_68 (by decide) (fun h68 => ?_) (fun h68 => ?_)
          · skip
            refine zs_aload_n (pc := 73) C dX9_nextRow_73 rfl ?_
            refine zs_getf (pc := 74) C dX9_nextRow_74 w_X9_151 f_10_76 (by decide) ?_
            refine zs_iload_n (pc := 77) C dX9_nextRow_77 rfl ?_
            refine zs_iconst (pc := 78) C dX9_nextRow_78 (by decide) ?_
            refine zs_iast (r := 2101) (pc := 79) C dX9_nextRow_79 a_101 (by decide) (by omega) rfl (r_2101 _) (by omega) ?_
            first | refine zs_iinc (pc := 80) C dX9_nextRow_80 rfl (by decide) (by omega) ?_ | refine zs_iincF (pc := 80) C dX9_nextRow_80 rfl (by decide) (fun z80 hz801 hz802 => ?_)
            dsimp only [zset, zclr, znone]
            refine zs_goto (tgt := 4) (pc := 83) C dX9_nextRow_83 (by decide) ?_
            exact zs_wk (ih4 _ _ (by omega) (by repeat (first | exact zsm_rf | assumption | refine zsm_C (by decide) ?_ | refine zsm_I (by decide) ?_ | refine zsm_J ?_ | refine zsm_c (by assumption) (by decide) ?_)) (fun i hi => by have := h4_2 i (by omega); simp only [zuI_1, true_and]; (repeat (rw [if_neg (by omega)])); exact this) (fun i hi => by have := h4_3 i hi; simp only [zuI_1, true_and]; (repeat split) <;> omega) (by with_reducible repeat (first | exact RO_rf | assumption | refine RO_0 (by decide) ?_ | refine RO_n 20 (by decide) (by omega) ?_ | refine RO_n 5 (by decide) (by omega) ?_ | refine RO_n 60 (by decide) (by omega) ?_ | refine RO_n 1 (by decide) (by omega) ?_ | refine RO_J (by decide) ?_ | refine RO_c (by assumption) ?_)) (by first | omega | (simp only [zuI_1, zuI_2, zuJ_1, zuJ_2, zuJ_3, zuP_1, zuP_2, zuP_3, zuC_1, zuC_2, reduceIte, Nat.reduceEqDiff, false_and, and_false, true_and, and_true, and_self, or_true, true_or, or_false, false_or]; omega))) (zwk_s rfl (zwk_s rfl (zwk_s rfl zwk_0)))
          · skip
            refine zs_good (fun hGd9 => ?_)
            refine zs_heap (P := fun G9 => zsm [2101] G1 G9 ∧ RO G1 G9 ∧ (∀ i : Nat, i < 4 → G9.1 2101 (Γ.2.1 w 76) i ≤ 19) ∧ zod 25 (G.1 2101 (Γ.2.1 w 76)) 4 < zod 25 (G9.1 2101 (Γ.2.1 w 76)) 4) ⟨(by repeat (first | exact zsm_rf | assumption | refine zsm_C (by decide) ?_ | refine zsm_I (by decide) ?_ | refine zsm_J ?_ | refine zsm_c (by assumption) (by decide) ?_)), (by with_reducible repeat (first | exact RO_rf | assumption | refine RO_0 (by decide) ?_ | refine RO_n 20 (by decide) (by omega) ?_ | refine RO_n 5 (by decide) (by omega) ?_ | refine RO_n 60 (by decide) (by omega) ?_ | refine RO_n 1 (by decide) (by omega) ?_ | refine RO_J (by decide) ?_ | refine RO_c (by assumption) ?_)), fun i hi => ?_, zod_up4 (k := x2.toNat) (by omega) (row24 hGd0 _) (fun i => (row24 hGd9 _ i).1) ?_ (fun i hi => ?_)⟩ (fun G9 hG9 => ?_)
            · have := h4_3 i hi
              simp only [zuI_1, true_and]
              repeat split
              all_goals omega
            · simp only [zuI_1, true_and, and_self, if_true]
              omega
            · have := h4_2 i (by omega)
              simp only [zuI_1, true_and]
              repeat (rw [if_neg (by omega)])
              exact this
            obtain ⟨hh1, lwG9, hh2, hh3⟩ := hG9
            refine zs_iconst (pc := 71) C dX9_nextRow_71 (by decide) ?_
            exact zs_zret (pc := 72) C hr hlk dX9_nextRow_72 (by omega) ⟨by repeat (first | exact zsm_rf | assumption | refine zsm_C (by decide) ?_ | refine zsm_I (by decide) ?_ | refine zsm_J ?_ | refine zsm_c (by assumption) (by decide) ?_), (by with_reducible repeat (first | exact RO_rf | assumption | refine RO_0 (by decide) ?_ | refine RO_n 20 (by decide) (by omega) ?_ | refine RO_n 5 (by decide) (by omega) ?_ | refine RO_n 60 (by decide) (by omega) ?_ | refine RO_n 1 (by decide) (by omega) ?_ | refine RO_J (by decide) ?_ | refine RO_c (by assumption) ?_)), by first | exact ⟨by omega, hh2, fun _ => hh3⟩ | exact ⟨by omega, h4_3, fun q => absurd q (by omega)⟩⟩
        · skip
          refine zs_aload_n (pc := 33) C dX9_nextRow_33 rfl ?_
          refine zs_getf (pc := 34) C dX9_nextRow_34 w_X9_151 f_10_76 (by decide) ?_
          refine zs_iload_n (pc := 37) C dX9_nextRow_37 rfl ?_
          refine zs_aload_n (pc := 38) C dX9_nextRow_38 rfl ?_
          refine zs_getf (pc := 39) C dX9_nextRow_39 w_X9_151 f_10_76 (by decide) ?_
          refine zs_iload_n (pc := 42) C dX9_nextRow_42 rfl ?_
          refine zs_iald (r := 2101) (pc := 43) C dX9_nextRow_43 a_101 (by decide) (by omega) rfl (r_2101 _) (fun v43 e43 l43 u43 => ?_)
          try simp only [zuI_1, zuI_2, zuJ_1, zuJ_2, zuJ_3, zuP_1, zuP_2, zuP_3, zuC_1, zuC_2, reduceIte, Nat.reduceEqDiff, false_and, and_false, true_and, and_true, and_self, or_true, true_or, or_false, false_or] at e43
          refine zs_aload_n (pc := 44) C dX9_nextRow_44 rfl ?_
          refine zs_getf (pc := 45) C dX9_nextRow_45 w_X9_151 f_10_76 (by decide) ?_
          refine zs_iload_n (pc := 48) C dX9_nextRow_48 rfl ?_
          refine zs_iald (r := 2101) (pc := 49) C dX9_nextRow_49 a_101 (by decide) (by omega) rfl (r_2101 _) (fun v49 e49 l49 u49 => ?_)
          try simp only [zuI_1, zuI_2, zuJ_1, zuJ_2, zuJ_3, zuP_1, zuP_2, zuP_3, zuC_1, zuC_2, reduceIte, Nat.reduceEqDiff, false_and, and_false, true_and, and_true, and_self, or_true, true_or, or_false, false_or] at e49
          refine zs_iconst (pc := 50) C dX9_nextRow_50 (by decide) ?_
          first | refine zs_irem (pc := 51) C dX9_nextRow_51 (by omega) (by omega) (fun hz511 hz512 => ?_) | refine zs_iremF (pc := 51) C dX9_nextRow_51 (by omega) (fun z51 hz511 hz512 => ?_)
          first | refine zs_isub (pc := 52) C dX9_nextRow_52 (by omega) ?_ | refine zs_isubF (pc := 52) C dX9_nextRow_52 (fun z52 hz521 hz522 => ?_)
          refine zs_iconst (pc := 53) C dX9_nextRow_53 (by decide) ?_
          first | refine zs_iadd (pc := 54) C dX9_nextRow_54 (by omega) ?_ | refine zs_iaddF (pc := 54) C dX9_nextRow_54 (fun z54 hz541 hz542 => ?_)
          refine zs_iast (r := 2101) (pc := 55) C dX9_nextRow_55 a_101 (by decide) (by omega) rfl (r_2101 _) (by omega) ?_
          refine zs_aload_n (pc := 56) C dX9_nextRow_56 rfl ?_
          refine zs_getf (pc := 57) C dX9_nextRow_57 w_X9_151 f_10_76 (by decide) ?_
          refine zs_iload_n (pc := 60) C dX9_nextRow_60 rfl ?_
          refine zs_iald (r := 2101) (pc := 61) C dX9_nextRow_61 a_101 (by decide) (by omega) rfl (r_2101 _) (fun v61 e61 l61 u61 => ?_)
          try simp only [zuI_1, zuI_2, zuJ_1, zuJ_2, zuJ_3, zuP_1, zuP_2, zuP_3, zuC_1, zuC_2, reduceIte, Nat.reduceEqDiff, false_and, and_false, true_and, and_true, and_self, or_true, true_or, or_false, false_or] at e61
          refine zs_iconst (pc := 62) C dX9_nextRow_62 (by decide) ?_
          refine zs_aload_n (pc := 63) C dX9_nextRow_63 rfl ?_
          refine zs_geti (r := 1013) (pc := 64) C dX9_nextRow_64 w_X9_261 f_10_13 rfl (r_1013 0) (fun v64 e64 l64 u64 => ?_)
          try simp only [zuI_1, zuI_2, zuJ_1, zuJ_2, zuJ_3, zuP_1, zuP_2, zuP_3, zuC_1, zuC_2, reduceIte, Nat.reduceEqDiff, false_and, and_false, true_and, and_true, and_self, or_true, true_or, or_false, false_or] at e64
          first | refine zs_imul (pc := 67) C dX9_nextRow_67 (by omega) ?_ | refine zs_imulF (pc := 67) C dX9_nextRow_67 (fun z67 hz671 hz672 => ?_)
          refine zs_icmp_ge (tgt := 73) (pc := 68) C dX9_nextRow_68 (by decide) (fun h68 => ?_) (fun h68 => ?_)
          · skip
            refine zs_aload_n (pc := 73) C dX9_nextRow_73 rfl ?_
            refine zs_getf (pc := 74) C dX9_nextRow_74 w_X9_151 f_10_76 (by decide) ?_
            refine zs_iload_n (pc := 77) C dX9_nextRow_77 rfl ?_
            refine zs_iconst (pc := 78) C dX9_nextRow_78 (by decide) ?_
            refine zs_iast (r := 2101) (pc := 79) C dX9_nextRow_79 a_101 (by decide) (by omega) rfl (r_2101 _) (by omega) ?_
            first | refine zs_iinc (pc := 80) C dX9_nextRow_80 rfl (by decide) (by omega) ?_ | refine zs_iincF (pc := 80) C dX9_nextRow_80 rfl (by decide) (fun z80 hz801 hz802 => ?_)
            dsimp only [zset, zclr, znone]
            refine zs_goto (tgt := 4) (pc := 83) C dX9_nextRow_83 (by decide) ?_
            exact zs_wk (ih4 _ _ (by omega) (by repeat (first | exact zsm_rf | assumption | refine zsm_C (by decide) ?_ | refine zsm_I (by decide) ?_ | refine zsm_J ?_ | refine zsm_c (by assumption) (by decide) ?_)) (fun i hi => by have := h4_2 i (by omega); simp only [zuI_1, true_and]; (repeat (rw [if_neg (by omega)])); exact this) (fun i hi => by have := h4_3 i hi; simp only [zuI_1, true_and]; (repeat split) <;> omega) (by with_reducible repeat (first | exact RO_rf | assumption | refine RO_0 (by decide) ?_ | refine RO_n 20 (by decide) (by omega) ?_ | refine RO_n 5 (by decide) (by omega) ?_ | refine RO_n 60 (by decide) (by omega) ?_ | refine RO_n 1 (by decide) (by omega) ?_ | refine RO_J (by decide) ?_ | refine RO_c (by assumption) ?_)) (by first | omega | (simp only [zuI_1, zuI_2, zuJ_1, zuJ_2, zuJ_3, zuP_1, zuP_2, zuP_3, zuC_1, zuC_2, reduceIte, Nat.reduceEqDiff, false_and, and_false, true_and, and_true, and_self, or_true, true_or, or_false, false_or]; omega))) (zwk_s rfl (zwk_s rfl (zwk_s rfl zwk_0)))
          · skip
            refine zs_good (fun hGd9 => ?_)
            refine zs_heap (P := fun G9 => zsm [2101] G1 G9 ∧ RO G1 G9 ∧ (∀ i : Nat, i < 4 → G9.1 2101 (Γ.2.1 w 76) i ≤ 19) ∧ zod 25 (G.1 2101 (Γ.2.1 w 76)) 4 < zod 25 (G9.1 2101 (Γ.2.1 w 76)) 4) ⟨(by repeat (first | exact zsm_rf | assumption | refine zsm_C (by decide) ?_ | refine zsm_I (by decide) ?_ | refine zsm_J ?_ | refine zsm_c (by assumption) (by decide) ?_)), (by with_reducible repeat (first | exact RO_rf | assumption | refine RO_0 (by decide) ?_ | refine RO_n 20 (by decide) (by omega) ?_ | refine RO_n 5 (by decide) (by omega) ?_ | refine RO_n 60 (by decide) (by omega) ?_ | refine RO_n 1 (by decide) (by omega) ?_ | refine RO_J (by decide) ?_ | refine RO_c (by assumption) ?_)), fun i hi => ?_, zod_up4 (k := x2.toNat) (by omega) (row24 hGd0 _) (fun i => (row24 hGd9 _ i).1) ?_ (fun i hi => ?_)⟩ (fun G9 hG9 => ?_)
            · have := h4_3 i hi
              simp only [zuI_1, true_and]
              repeat split
              all_goals omega
            · simp only [zuI_1, true_and, and_self, if_true]
              omega
            · have := h4_2 i (by omega)
              simp only [zuI_1, true_and]
              repeat (rw [if_neg (by omega)])
              exact this
            obtain ⟨hh1, lwG9, hh2, hh3⟩ := hG9
            refine zs_iconst (pc := 71) C dX9_nextRow_71 (by decide) ?_
            exact zs_zret (pc := 72) C hr hlk dX9_nextRow_72 (by omega) ⟨by repeat (first | exact zsm_rf | assumption | refine zsm_C (by decide) ?_ | refine zsm_I (by decide) ?_ | refine zsm_J ?_ | refine zsm_c (by assumption) (by decide) ?_), (by with_reducible repeat (first | exact RO_rf | assumption | refine RO_0 (by decide) ?_ | refine RO_n 20 (by decide) (by omega) ?_ | refine RO_n 5 (by decide) (by omega) ?_ | refine RO_n 60 (by decide) (by omega) ?_ | refine RO_n 1 (by decide) (by omega) ?_ | refine RO_J (by decide) ?_ | refine RO_c (by assumption) ?_)), by first | exact ⟨by omega, hh2, fun _ => hh3⟩ | exact ⟨by omega, h4_3, fun q => absurd q (by omega)⟩⟩
  exact zs_wk (L4 _ _ _ (by omega) (by repeat (first | exact zsm_rf | assumption | refine zsm_C (by decide) ?_ | refine zsm_I (by decide) ?_ | refine zsm_J ?_ | refine zsm_c (by assumption) (by decide) ?_)) (fun i hi => rfl) hrw (by with_reducible repeat (first | exact RO_rf | assumption | refine RO_0 (by decide) ?_ | refine RO_n 20 (by decide) (by omega) ?_ | refine RO_n 5 (by decide) (by omega) ?_ | refine RO_n 60 (by decide) (by omega) ?_ | refine RO_n 1 (by decide) (by omega) ?_ | refine RO_J (by decide) ?_ | refine RO_c (by assumption) ?_)) (Nat.lt_succ_self _)) (zwk_s rfl (zwk_s rfl (zwk_s rfl zwk_0)))

set_option maxHeartbeats 4000000 in
set_option maxRecDepth 100000 in
theorem c_X9_layPlanO {l : Launch} {Γ : zΓ} {G : zH} {w : Nat} {c0 : Int} (hX : zXs Γ) (hM : MI Γ w G)(hc : 0 ≤ c0 ∧ c0 ≤ 4) : zMet l Γ yX9_layPlan cX9_layPlan 6 none 7 [zr 10 w, zi c0] G (zpv (fun G' => zsm [2091, 2092, 2093, 2094, 2095, 2088, 2087, 2082, 2084, 2083, 2089, 1050, 2081, 2085, 2086, 2090, 1072, 1073, 1074, 2101, 2102, 1078, 1079] G G' ∧ RO G G' ∧ True)) := by
  refine zMet_of RX9 hX (by decide) rfl (Nat.le_of_ble_eq_true rfl) ?_
  intro p e s m args below meth c C hr hlk
  show Z p l e (zrm 7) s m args below meth c Γ 6 0 0 (MQ below (zQc Γ (zpv (fun G' => zsm [2091, 2092, 2093, 2094, 2095, 2088, 2087, 2082, 2084, 2083, 2089, 1050, 2081, 2085, 2086, 2090, 1072, 1073, 1074, 2101, 2102, 1078, 1079] G G' ∧ RO G G' ∧ True))) args s 0 0 (zA Γ)) 0 [some (zr 10 w), some (zi c0), none, none, none, none] [] G
  refine zs_loc 1 rfl (fun ha1 hb1 => ?_)
  refine zs_aload_n (pc := 0) C dX9_layPlan_0 rfl ?_
  refine zs_iconst (pc := 1) C dX9_layPlan_1 (by decide) ?_
  refine zs_puti (r := 1078) (pc := 2) C dX9_layPlan_2 w_X9_501 f_10_78 rfl (r_1078 0) (by omega) ?_
  refine zs_iconst (pc := 5) C dX9_layPlan_5 (by decide) ?_
  refine zs_istore_n (pc := 6) C dX9_layPlan_6 (by decide) ?_
  dsimp only [zset, zclr, znone]
  have L7 : ∀ (nn : Nat) (x2 : Int) (G1 : zH), (0 ≤ x2 ∧ x2 ≤ 5) → (zsm [2091, 2092, 2093, 2094, 2095, 2088, 2087, 2082, 2084, 2083, 2089, 1050, 2081, 2085, 2086, 2090, 1072, 1073, 1074, 2101, 2102, 1078, 1079] G G1) → (RO G G1) → (5 - x2).toNat < nn → Z p l e (zrm 7) s m args below meth c Γ 6 0 0 (MQ below (zQc Γ (zpv (fun G' => zsm [2091, 2092, 2093, 2094, 2095, 2088, 2087, 2082, 2084, 2083, 2089, 1050, 2081, 2085, 2086, 2090, 1072, 1073, 1074, 2101, 2102, 1078, 1079] G G' ∧ RO G G' ∧ True))) args s 0 0 (zA Γ)) 7 [some (zr 10 w), some (zi c0), some (zi x2), none, none, none] [] G1 := by
    intro nn
    induction nn with
    | zero => intro x2 G1 h7_0 h7_1 h7_2 hm; exact absurd hm (Nat.not_lt_zero _)
    | succ nn ih7 =>
      intro x2 G1 h7_0 h7_1 h7_2 hm7
      refine zs_iload_n (pc := 7) C dX9_layPlan_7 rfl ?_
      refine zs_iconst (pc := 8) C dX9_layPlan_8 (by decide) ?_
      refine zs_icmp_ge (tgt := 162) (pc := 9) C dX9_layPlan_9 (by decide) (fun h9 => ?_) (fun h9 => ?_)
      · skip
        exact zs_vret (pc := 162) C hr hlk dX9_layPlan_162 ⟨by repeat (first | exact zsm_rf | assumption | refine zsm_C (by decide) ?_ | refine zsm_I (by decide) ?_ | refine zsm_J ?_ | refine zsm_c (by assumption) (by decide) ?_), (by with_reducible repeat (first | exact RO_rf | assumption | refine RO_0 (by decide) ?_ | refine RO_n 20 (by decide) (by omega) ?_ | refine RO_n 5 (by decide) (by omega) ?_ | refine RO_n 60 (by decide) (by omega) ?_ | refine RO_n 1 (by decide) (by omega) ?_ | refine RO_J (by decide) ?_ | refine RO_c (by assumption) ?_)), trivial⟩
      · skip
        refine zs_aload_n (pc := 12) C dX9_layPlan_12 rfl ?_
        refine zs_geti (r := 1078) (pc := 13) C dX9_layPlan_13 w_X9_501 f_10_78 rfl (r_1078 0) (fun v13 e13 l13 u13 => ?_)
        refine zs_if_eq (tgt := 162) (pc := 16) C dX9_layPlan_16 (by decide) (fun h16 => ?_) (fun h16 => ?_)
        · skip
          exact zs_vret (pc := 162) C hr hlk dX9_layPlan_162 ⟨by repeat (first | exact zsm_rf | assumption | refine zsm_C (by decide) ?_ | refine zsm_I (by decide) ?_ | refine zsm_J ?_ | refine zsm_c (by assumption) (by decide) ?_), (by with_reducible repeat (first | exact RO_rf | assumption | refine RO_0 (by decide) ?_ | refine RO_n 20 (by decide) (by omega) ?_ | refine RO_n 5 (by decide) (by omega) ?_ | refine RO_n 60 (by decide) (by omega) ?_ | refine RO_n 1 (by decide) (by omega) ?_ | refine RO_J (by decide) ?_ | refine RO_c (by assumption) ?_)), trivial⟩
        · skip
          refine zs_iload_n (pc := 19) C dX9_layPlan_19 rfl ?_
          refine zs_if_eq (tgt := 37) (pc := 20) C dX9_layPlan_20 (by decide) (fun h20 => ?_) (fun h20 => ?_)
          · skip
            refine zs_iconst (pc := 37) C dX9_layPlan_37 (by decide) ?_
            refine zs_istore_n (pc := 38) C dX9_layPlan_38 (by decide) ?_
            dsimp only [zset, zclr, znone]
            have L39 : ∀ (nn : Nat) (x3 : Int) (G2 : zH), (0 ≤ x3 ∧ x3 ≤ 4) → (zsm [2091, 2092, 2093, 2094, 2095, 2088, 2087, 2082, 2084, 2083, 2089, 1050, 2081, 2085, 2086, 2090, 1072, 1073, 1074, 2101, 2102, 1078, 1079] G G2) → (∀ i : Nat, (i : Int) < x3 → G2.1 2101 (Γ.2.1 w 76) i ≤ 19) → (RO G G2) → (4 - x3).toNat < nn → Z p l e (zrm 7) s m args below meth c Γ 6 0 0 (MQ below (zQc Γ (zpv (fun G' => zsm [2091, 2092, 2093, 2094, 2095, 2088, 2087, 2082, 2084, 2083, 2089, 1050, 2081, 2085, 2086, 2090, 1072, 1073, 1074, 2101, 2102, 1078, 1079] G G' ∧ RO G G' ∧ True))) args s 0 0 (zA Γ)) 39 [some (zr 10 w), some (zi c0), some (zi x2), some (zi x3), none, none] [] G2 := by
              intro nn
              induction nn with
              | zero => intro x3 G2 h39_0 h39_1 h39_2 h39_3 hm; exact absurd hm (Nat.not_lt_zero _)
              | succ nn ih39 =>
                intro x3 G2 h39_0 h39_1 h39_2 h39_3 hm39
                refine zs_iload_n (pc := 39) C dX9_layPlan_39 rfl ?_
                refine zs_iconst (pc := 40) C dX9_layPlan_40 (by decide) ?_
                refine zs_icmp_ge (tgt := 57) (pc := 41) C dX9_layPlan_41 (by decide) (fun h41 => ?_) (fun h41 => ?_)
                · skip
                  refine zs_iconst (pc := 57) C dX9_layPlan_57 (by decide) ?_
                  refine zs_istore_n (pc := 58) C dX9_layPlan_58 (by decide) ?_
                  dsimp only [zset, zclr, znone]
                  have L59 : ∀ (nn : Nat) (x3 : Int) (G3 : zH), (x3 = 0 ∨ x3 = 1) → (∀ i : Nat, i < 4 → G3.1 2101 (Γ.2.1 w 76) i ≤ 19) → (zsm [2091, 2092, 2093, 2094, 2095, 2088, 2087, 2082, 2084, 2083, 2089, 1050, 2081, 2085, 2086, 2090, 1072, 1073, 1074, 2101, 2102, 1078, 1079] G G3) → (RO G G3) → lpm x3 (zod 25 (G3.1 2101 (Γ.2.1 w 76)) 4) < nn → Z p l e (zrm 7) s m args below meth c Γ 6 0 0 (MQ below (zQc Γ (zpv (fun G' => zsm [2091, 2092, 2093, 2094, 2095, 2088, 2087, 2082, 2084, 2083, 2089, 1050, 2081, 2085, 2086, 2090, 1072, 1073, 1074, 2101, 2102, 1078, 1079] G G' ∧ RO G G' ∧ True))) args s 0 0 (zA Γ)) 59 [some (zr 10 w), some (zi c0), some (zi x2), some (zi x3), none, none] [] G3 := by
                    intro nn
                    induction nn with
                    | zero => intro x3 G3 h59_0 h59_1 h59_2 h59_3 hm; exact absurd hm (Nat.not_lt_zero _)
                    | succ nn ih59 =>
                      intro x3 G3 h59_0 h59_1 h59_2 h59_3 hm59
                      refine zs_iload_n (pc := 59) C dX9_layPlan_59 rfl ?_
                      refine zs_if_eq (tgt := 156) (pc := 60) C dX9_layPlan_60 (by decide) (fun h60 => ?_) (fun h60 => ?_)
                      · skip
                        first | refine zs_iinc (pc := 156) C dX9_layPlan_156 rfl (by decide) (by omega) ?_ | refine zs_iincF (pc := 156) C dX9_layPlan_156 rfl (by decide) (fun z156 hz1561 hz1562 => ?_)
                        dsimp only [zset, zclr, znone]
                        refine zs_goto (tgt := 7) (pc := 159) C dX9_layPlan_159 (by decide) ?_
                        exact zs_wk (ih7 _ _ (by first | omega | (simp only [zuI_1, zuI_2, zuJ_1, zuJ_2, zuJ_3, zuP_1, zuP_2, zuP_3, zuC_1, zuC_2, reduceIte, Nat.reduceEqDiff, false_and, and_false, true_and, and_true, and_self, or_true, true_or, or_false, false_or]; omega)) (by repeat (first | exact zsm_rf | assumption | refine zsm_C (by decide) ?_ | refine zsm_I (by decide) ?_ | refine zsm_J ?_ | refine zsm_c (by assumption) (by decide) ?_)) (by with_reducible repeat (first | exact RO_rf | assumption | refine RO_0 (by decide) ?_ | refine RO_n 20 (by decide) (by omega) ?_ | refine RO_n 5 (by decide) (by omega) ?_ | refine RO_n 60 (by decide) (by omega) ?_ | refine RO_n 1 (by decide) (by omega) ?_ | refine RO_J (by decide) ?_ | refine RO_c (by assumption) ?_)) (by first | omega | (simp only [zuI_1, zuI_2, zuJ_1, zuJ_2, zuJ_3, zuP_1, zuP_2, zuP_3, zuC_1, zuC_2, reduceIte, Nat.reduceEqDiff, false_and, and_false, true_and, and_true, and_self, or_true, true_or, or_false, false_or]; omega))) (zwk_s rfl (zwk_s rfl (zwk_s rfl (zwk_n (zwk_n (zwk_n zwk_0))))))
                      · skip
                        refine zs_aload_n (pc := 63) C dX9_layPlan_63 rfl ?_
                        refine zs_iload_n (pc := 64) C dX9_layPlan_64 rfl ?_
                        refine zs_iload_n (pc := 65) C dX9_layPlan_65 rfl ?_
                        refine zVi2 (pc := 66) C dX9_layPlan_66 v_X9_504 (c_X9_fallsByO hX (by repeat (first | assumption | refine MI_I (by decide) ?_ | refine MI_J ?_ | refine MI_sm (by assumption) (by decide) ?_ | refine MI_sn (by assumption) (by decide) ?_)) (by omega) (by omega) (by omega)) (by decide) (by decide) ⟨Nat.zero_le _, Nat.zero_le _⟩ (Nat.le_of_ble_eq_true rfl) (fun x66 G66 l66 u66 hp66 => ?_)
                        obtain ⟨hz66, lo66, hq66⟩ := hp66
                        refine zs_istore (pc := 69) C dX9_layPlan_69 (by decide) ?_
                        dsimp only [zset, zclr, znone]
                        have J132 : ∀ (G5 : zH), (zsm [2091, 2092, 2093, 2094, 2095, 2088, 2087, 2082, 2084, 2083, 2089, 1050, 2081, 2085, 2086, 2090, 1072, 1073, 1074, 2101, 2102, 1078, 1079] G G5) → (G5.1 2101 = G3.1 2101) → (RO G G5) → Z p l e (zrm 7) s m args below meth c Γ 6 0 0 (MQ below (zQc Γ (zpv (fun G' => zsm [2091, 2092, 2093, 2094, 2095, 2088, 2087, 2082, 2084, 2083, 2089, 1050, 2081, 2085, 2086, 2090, 1072, 1073, 1074, 2101, 2102, 1078, 1079] G G' ∧ RO G G' ∧ True))) args s 0 0 (zA Γ)) 132 [some (zr 10 w), some (zi c0), some (zi x2), some (zi x3), none, none] [] G5 := by
                          intro G5 h132_0 h132_1 h132_2
                          have hr5 : ∀ i : Nat, i < 4 → G5.1 2101 (Γ.2.1 w 76) i ≤ 19 := fun i hi => by rw [h132_1]; exact h59_1 i hi
                          refine zs_good (fun hGd5 => ?_)
                          have hzb := zod4_b (row24 hGd5 (Γ.2.1 w 76))
                          rw [h132_1] at hzb
                          refine zs_aload_n (pc := 132) C dX9_layPlan_132 rfl ?_
                          refine zs_geti (r := 1078) (pc := 133) C dX9_layPlan_133 w_X9_501 f_10_78 rfl (r_1078 0) (fun v133 e133 l133 u133 => ?_)
                          refine zs_if_eq (tgt := 151) (pc := 136) C dX9_layPlan_136 (by decide) (fun h136 => ?_) (fun h136 => ?_)
                          · skip
                            refine zs_iconst (pc := 151) C dX9_layPlan_151 (by decide) ?_
                            refine zs_istore_n (pc := 152) C dX9_layPlan_152 (by decide) ?_
                            dsimp only [zset, zclr, znone]
                            refine zs_goto (tgt := 59) (pc := 153) C dX9_layPlan_153 (by decide) ?_
                            exact zs_wk (ih59 _ _ (by omega) (by first | exact hq141.2.1 | exact hr5) (by repeat (first | exact zsm_rf | assumption | refine zsm_C (by decide) ?_ | refine zsm_I (by decide) ?_ | refine zsm_J ?_ | refine zsm_c (by assumption) (by decide) ?_)) (by with_reducible repeat (first | exact RO_rf | assumption | refine RO_0 (by decide) ?_ | refine RO_n 20 (by decide) (by omega) ?_ | refine RO_n 5 (by decide) (by omega) ?_ | refine RO_n 60 (by decide) (by omega) ?_ | refine RO_n 1 (by decide) (by omega) ?_ | refine RO_J (by decide) ?_ | refine RO_c (by assumption) ?_)) (by first | exact lpm_s0 hm59 h60 hzb | exact lpm_s1 hm59 h60 (hq5 (by omega)) hzb6)) (zwk_s rfl (zwk_s rfl (zwk_s rfl (zwk_s rfl (zwk_n (zwk_n zwk_0))))))
                          · skip
                            refine zs_aload_n (pc := 139) C dX9_layPlan_139 rfl ?_
                            refine zs_iload_n (pc := 140) C dX9_layPlan_140 rfl ?_
                            refine zVi1 (pc := 141) C dX9_layPlan_141 v_X9_510 (c_X9_nextRowO hX (by omega) (by omega)) (by decide) (by decide) ⟨Nat.zero_le _, Nat.zero_le _⟩ (Nat.le_of_ble_eq_true rfl) (fun x141 G141 l141 u141 hp141 => ?_)
                            obtain ⟨hz141, lo141, hq141⟩ := hp141
                            have hq5 := hq141.2.2
                            rw [h132_1] at hq5
                            refine zs_good (fun hGd6 => ?_)
                            have hzb6 := zod4_b (row24 hGd6 (Γ.2.1 w 76))
                            refine zs_if_eq (tgt := 151) (pc := 144) C dX9_layPlan_144 (by decide) (fun h144 => ?_) (fun h144 => ?_)
                            · skip
                              refine zs_iconst (pc := 151) C dX9_layPlan_151 (by decide) ?_
                              refine zs_istore_n (pc := 152) C dX9_layPlan_152 (by decide) ?_
                              dsimp only [zset, zclr, znone]
                              refine zs_goto (tgt := 59) (pc := 153) C dX9_layPlan_153 (by decide) ?_
                              exact zs_wk (ih59 _ _ (by omega) (by first | exact hq141.2.1 | exact hr5) (by repeat (first | exact zsm_rf | assumption | refine zsm_C (by decide) ?_ | refine zsm_I (by decide) ?_ | refine zsm_J ?_ | refine zsm_c (by assumption) (by decide) ?_)) (by with_reducible repeat (first | exact RO_rf | assumption | refine RO_0 (by decide) ?_ | refine RO_n 20 (by decide) (by omega) ?_ | refine RO_n 5 (by decide) (by omega) ?_ | refine RO_n 60 (by decide) (by omega) ?_ | refine RO_n 1 (by decide) (by omega) ?_ | refine RO_J (by decide) ?_ | refine RO_c (by assumption) ?_)) (by first | exact lpm_s0 hm59 h60 hzb | exact lpm_s1 hm59 h60 (hq5 (by omega)) hzb6)) (zwk_s rfl (zwk_s rfl (zwk_s rfl (zwk_s rfl (zwk_n (zwk_n zwk_0))))))
                            · skip
                              refine zs_iconst (pc := 147) C dX9_layPlan_147 (by decide) ?_
                              refine zs_goto (tgt := 152) (pc := 148) C dX9_layPlan_148 (by decide) ?_
                              refine zs_istore_n (pc := 152) C dX9_layPlan_152 (by decide) ?_
                              dsimp only [zset, zclr, znone]
                              refine zs_goto (tgt := 59) (pc := 153) C dX9_layPlan_153 (by decide) ?_
                              exact zs_wk (ih59 _ _ (by omega) (by first | exact hq141.2.1 | exact hr5) (by repeat (first | exact zsm_rf | assumption | refine zsm_C (by decide) ?_ | refine zsm_I (by decide) ?_ | refine zsm_J ?_ | refine zsm_c (by assumption) (by decide) ?_)) (by with_reducible repeat (first | exact RO_rf | assumption | refine RO_0 (by decide) ?_ | refine RO_n 20 (by decide) (by omega) ?_ | refine RO_n 5 (by decide) (by omega) ?_ | refine RO_n 60 (by decide) (by omega) ?_ | refine RO_n 1 (by decide) (by omega) ?_ | refine RO_J (by decide) ?_ | refine RO_c (by assumption) ?_)) (by first | exact lpm_s0 hm59 h60 hzb | exact lpm_s1 hm59 h60 (hq5 (by omega)) hzb6)) (zwk_s rfl (zwk_s rfl (zwk_s rfl (zwk_s rfl (zwk_n (zwk_n zwk_0))))))
                        refine zs_iload (pc := 71) C dX9_layPlan_71 rfl ?_
                        refine zs_if_lt (tgt := 132) (pc := 73) C dX9_layPlan_73 (by decide) (fun h73 => ?_) (fun h73 => ?_)
                        · skip
                          exact zs_wk (J132 _ (by repeat (first | exact zsm_rf | assumption | refine zsm_C (by decide) ?_ | refine zsm_I (by decide) ?_ | refine zsm_J ?_ | refine zsm_c (by assumption) (by decide) ?_)) (by first | exact hz66.1 2101 (by decide) | exact (h106_2.1 2101 (by decide)).trans (hz66.1 2101 (by decide))) (by with_reducible repeat (first | exact RO_rf | assumption | refine RO_0 (by decide) ?_ | refine RO_n 20 (by decide) (by omega) ?_ | refine RO_n 5 (by decide) (by omega) ?_ | refine RO_n 60 (by decide) (by omega) ?_ | refine RO_n 1 (by decide) (by omega) ?_ | refine RO_J (by decide) ?_ | refine RO_c (by assumption) ?_))) (zwk_s rfl (zwk_s rfl (zwk_s rfl (zwk_s rfl (zwk_n (zwk_n zwk_0))))))
                        · skip
                          refine zs_aload_n (pc := 76) C dX9_layPlan_76 rfl ?_
                          refine zs_geti (r := 1078) (pc := 77) C dX9_layPlan_77 w_X9_501 f_10_78 rfl (r_1078 0) (fun v77 e77 l77 u77 => ?_)
                          refine zs_if_lt (tgt := 92) (pc := 80) C dX9_layPlan_80 (by decide) (fun h80 => ?_) (fun h80 => ?_)
                          · skip
                            refine zs_aload_n (pc := 92) C dX9_layPlan_92 rfl ?_
                            refine zs_iload (pc := 93) C dX9_layPlan_93 rfl ?_
                            refine zs_puti (r := 1078) (pc := 95) C dX9_layPlan_95 w_X9_501 f_10_78 rfl (r_1078 0) (by omega) ?_
                            refine zs_aload_n (pc := 98) C dX9_layPlan_98 rfl ?_
                            refine zs_iload_n (pc := 99) C dX9_layPlan_99 rfl ?_
                            refine zs_puti (r := 1079) (pc := 100) C dX9_layPlan_100 w_X9_507 f_10_79 rfl (r_1079 0) (by omega) ?_
                            refine zs_iconst (pc := 103) C dX9_layPlan_103 (by decide) ?_
                            refine zs_istore (pc := 104) C dX9_layPlan_104 (by decide) ?_
                            dsimp only [zset, zclr, znone]
                            have L106 : ∀ (nn : Nat) (x5 : Int) (G6 : zH), (0 ≤ x5 ∧ x5 ≤ 4) → (zsm [2091, 2092, 2093, 2094, 2095, 2088, 2087, 2082, 2084, 2083, 2089, 1050, 2081, 2085, 2086, 2090, 1072, 1073, 1074, 2101, 2102, 1078, 1079] G G6) → (zsm [2102, 1078, 1079] G66 G6) → (RO G G6) → (4 - x5).toNat < nn → Z p l e (zrm 7) s m args below meth c Γ 6 0 0 (MQ below (zQc Γ (zpv (fun G' => zsm [2091, 2092, 2093, 2094, 2095, 2088, 2087, 2082, 2084, 2083, 2089, 1050, 2081, 2085, 2086, 2090, 1072, 1073, 1074, 2101, 2102, 1078, 1079] G G' ∧ RO G G' ∧ True))) args s 0 0 (zA Γ)) 106 [some (zr 10 w), some (zi c0), some (zi x2), some (zi x3), none, some (zi x5)] [] G6 := by
                              intro nn
                              induction nn with
                              | zero => intro x5 G6 h106_0 h106_1 h106_2 h106_3 hm; exact absurd hm (Nat.not_lt_zero _)
                              | succ nn ih106 =>
                                intro x5 G6 h106_0 h106_1 h106_2 h106_3 hm106
                                refine zs_iload (pc := 106) C dX9_layPlan_106 rfl ?_
                                refine zs_iconst (pc := 108) C dX9_layPlan_108 (by decide) ?_
                                refine zs_icmp_ge (tgt := 132) (pc := 109) C dX9_layPlan_109 (by decide) (fun h109 => ?_) (fun h109 => ?_)
                                · skip
                                  exact zs_wk (J132 _ (by repeat (first | exact zsm_rf | assumption | refine zsm_C (by decide) ?_ | refine zsm_I (by decide) ?_ | refine zsm_J ?_ | refine zsm_c (by assumption) (by decide) ?_)) (by first | exact hz66.1 2101 (by decide) | exact (h106_2.1 2101 (by decide)).trans (hz66.1 2101 (by decide))) (by with_reducible repeat (first | exact RO_rf | assumption | refine RO_0 (by decide) ?_ | refine RO_n 20 (by decide) (by omega) ?_ | refine RO_n 5 (by decide) (by omega) ?_ | refine RO_n 60 (by decide) (by omega) ?_ | refine RO_n 1 (by decide) (by omega) ?_ | refine RO_J (by decide) ?_ | refine RO_c (by assumption) ?_))) (zwk_s rfl (zwk_s rfl (zwk_s rfl (zwk_s rfl (zwk_n (zwk_n zwk_0))))))
                                · skip
                                  refine zs_aload_n (pc := 112) C dX9_layPlan_112 rfl ?_
                                  refine zs_getf (pc := 113) C dX9_layPlan_113 w_X9_154 f_10_77 (by decide) ?_
                                  refine zs_iload (pc := 116) C dX9_layPlan_116 rfl ?_
                                  refine zs_aload_n (pc := 118) C dX9_layPlan_118 rfl ?_
                                  refine zs_getf (pc := 119) C dX9_layPlan_119 w_X9_151 f_10_76 (by decide) ?_
                                  refine zs_iload (pc := 122) C dX9_layPlan_122 rfl ?_
                                  refine zs_iald (r := 2101) (pc := 124) C dX9_layPlan_124 a_101 (by decide) (by omega) rfl (r_2101 _) (fun v124 e124 l124 u124 => ?_)
                                  refine zs_iast (r := 2102) (pc := 125) C dX9_layPlan_125 a_102 (by decide) (by omega) rfl (r_2102 _) (by omega) ?_
                                  first | refine zs_iinc (pc := 126) C dX9_layPlan_126 rfl (by decide) (by omega) ?_ | refine zs_iincF (pc := 126) C dX9_layPlan_126 rfl (by decide) (fun z126 hz1261 hz1262 => ?_)
                                  dsimp only [zset, zclr, znone]
                                  refine zs_goto (tgt := 106) (pc := 129) C dX9_layPlan_129 (by decide) ?_
                                  exact zs_wk (ih106 _ _ (by first | omega | (simp only [zuI_1, zuI_2, zuJ_1, zuJ_2, zuJ_3, zuP_1, zuP_2, zuP_3, zuC_1, zuC_2, reduceIte, Nat.reduceEqDiff, false_and, and_false, true_and, and_true, and_self, or_true, true_or, or_false, false_or]; omega)) (by repeat (first | exact zsm_rf | assumption | refine zsm_C (by decide) ?_ | refine zsm_I (by decide) ?_ | refine zsm_J ?_ | refine zsm_c (by assumption) (by decide) ?_)) (by repeat (first | exact zsm_rf | assumption | refine zsm_C (by decide) ?_ | refine zsm_I (by decide) ?_ | refine zsm_J ?_ | refine zsm_c (by assumption) (by decide) ?_)) (by with_reducible repeat (first | exact RO_rf | assumption | refine RO_0 (by decide) ?_ | refine RO_n 20 (by decide) (by omega) ?_ | refine RO_n 5 (by decide) (by omega) ?_ | refine RO_n 60 (by decide) (by omega) ?_ | refine RO_n 1 (by decide) (by omega) ?_ | refine RO_J (by decide) ?_ | refine RO_c (by assumption) ?_)) (by first | omega | (simp only [zuI_1, zuI_2, zuJ_1, zuJ_2, zuJ_3, zuP_1, zuP_2, zuP_3, zuC_1, zuC_2, reduceIte, Nat.reduceEqDiff, false_and, and_false, true_and, and_true, and_self, or_true, true_or, or_false, false_or]; omega))) (zwk_s rfl (zwk_s rfl (zwk_s rfl (zwk_s rfl (zwk_n (zwk_s rfl zwk_0))))))
                            exact zs_wk (L106 _ _ _ (by first | omega | (simp only [zuI_1, zuI_2, zuJ_1, zuJ_2, zuJ_3, zuP_1, zuP_2, zuP_3, zuC_1, zuC_2, reduceIte, Nat.reduceEqDiff, false_and, and_false, true_and, and_true, and_self, or_true, true_or, or_false, false_or]; omega)) (by repeat (first | exact zsm_rf | assumption | refine zsm_C (by decide) ?_ | refine zsm_I (by decide) ?_ | refine zsm_J ?_ | refine zsm_c (by assumption) (by decide) ?_)) (by repeat (first | exact zsm_rf | assumption | refine zsm_C (by decide) ?_ | refine zsm_I (by decide) ?_ | refine zsm_J ?_ | refine zsm_c (by assumption) (by decide) ?_)) (by with_reducible repeat (first | exact RO_rf | assumption | refine RO_0 (by decide) ?_ | refine RO_n 20 (by decide) (by omega) ?_ | refine RO_n 5 (by decide) (by omega) ?_ | refine RO_n 60 (by decide) (by omega) ?_ | refine RO_n 1 (by decide) (by omega) ?_ | refine RO_J (by decide) ?_ | refine RO_c (by assumption) ?_)) (Nat.lt_succ_self _)) (zwk_s rfl (zwk_s rfl (zwk_s rfl (zwk_s rfl (zwk_n (zwk_s rfl zwk_0))))))
                          · skip
                            refine zs_iload (pc := 83) C dX9_layPlan_83 rfl ?_
                            refine zs_aload_n (pc := 85) C dX9_layPlan_85 rfl ?_
                            refine zs_geti (r := 1078) (pc := 86) C dX9_layPlan_86 w_X9_501 f_10_78 rfl (r_1078 0) (fun v86 e86 l86 u86 => ?_)
                            refine zs_icmp_ge (tgt := 132) (pc := 89) C dX9_layPlan_89 (by decide) (fun h89 => ?_) (fun h89 => ?_)
                            · skip
                              exact zs_wk (J132 _ (by repeat (first | exact zsm_rf | assumption | refine zsm_C (by decide) ?_ | refine zsm_I (by decide) ?_ | refine zsm_J ?_ | refine zsm_c (by assumption) (by decide) ?_)) (by first | exact hz66.1 2101 (by decide) | exact (h106_2.1 2101 (by decide)).trans (hz66.1 2101 (by decide))) (by with_reducible repeat (first | exact RO_rf | assumption | refine RO_0 (by decide) ?_ | refine RO_n 20 (by decide) (by omega) ?_ | refine RO_n 5 (by decide) (by omega) ?_ | refine RO_n 60 (by decide) (by omega) ?_ | refine RO_n 1 (by decide) (by omega) ?_ | refine RO_J (by decide) ?_ | refine RO_c (by assumption) ?_))) (zwk_s rfl (zwk_s rfl (zwk_s rfl (zwk_s rfl (zwk_n (zwk_n zwk_0))))))
                            · skip
                              refine zs_aload_n (pc := 92) C dX9_layPlan_92 rfl ?_
                              refine zs_iload (pc := 93) C dX9_layPlan_93 rfl ?_
                              refine zs_puti (r := 1078) (pc := 95) C dX9_layPlan_95 w_X9_501 f_10_78 rfl (r_1078 0) (by omega) ?_
                              refine zs_aload_n (pc := 98) C dX9_layPlan_98 rfl ?_
                              refine zs_iload_n (pc := 99) C dX9_layPlan_99 rfl ?_
                              refine zs_puti (r := 1079) (pc := 100) C dX9_layPlan_100 w_X9_507 f_10_79 rfl (r_1079 0) (by omega) ?_
                              refine zs_iconst (pc := 103) C dX9_layPlan_103 (by decide) ?_
                              refine zs_istore (pc := 104) C dX9_layPlan_104 (by decide) ?_
                              dsimp only [zset, zclr, znone]
                              have L106 : ∀ (nn : Nat) (x5 : Int) (G6 : zH), (0 ≤ x5 ∧ x5 ≤ 4) → (zsm [2091, 2092, 2093, 2094, 2095, 2088, 2087, 2082, 2084, 2083, 2089, 1050, 2081, 2085, 2086, 2090, 1072, 1073, 1074, 2101, 2102, 1078, 1079] G G6) → (zsm [2102, 1078, 1079] G66 G6) → (RO G G6) → (4 - x5).toNat < nn → Z p l e (zrm 7) s m args below meth c Γ 6 0 0 (MQ below (zQc Γ (zpv (fun G' => zsm [2091, 2092, 2093, 2094, 2095, 2088, 2087, 2082, 2084, 2083, 2089, 1050, 2081, 2085, 2086, 2090, 1072, 1073, 1074, 2101, 2102, 1078, 1079] G G' ∧ RO G G' ∧ True))) args s 0 0 (zA Γ)) 106 [some (zr 10 w), some (zi c0), some (zi x2), some (zi x3), none, some (zi x5)] [] G6 := by
                                intro nn
                                induction nn with
                                | zero => intro x5 G6 h106_0 h106_1 h106_2 h106_3 hm; exact absurd hm (Nat.not_lt_zero _)
                                | succ nn ih106 =>
                                  intro x5 G6 h106_0 h106_1 h106_2 h106_3 hm106
                                  refine zs_iload (pc := 106) C dX9_layPlan_106 rfl ?_
                                  refine zs_iconst (pc := 108) C dX9_layPlan_108 (by decide) ?_
                                  refine zs_icmp_ge (tgt := 132) (pc := 109) C dX9_layPlan_109 (by decide) (fun h109 => ?_) (fun h109 => ?_)
                                  · skip
                                    exact zs_wk (J132 _ (by repeat (first | exact zsm_rf | assumption | refine zsm_C (by decide) ?_ | refine zsm_I (by decide) ?_ | refine zsm_J ?_ | refine zsm_c (by assumption) (by decide) ?_)) (by first | exact hz66.1 2101 (by decide) | exact (h106_2.1 2101 (by decide)).trans (hz66.1 2101 (by decide))) (by with_reducible repeat (first | exact RO_rf | assumption | refine RO_0 (by decide) ?_ | refine RO_n 20 (by decide) (by omega) ?_ | refine RO_n 5 (by decide) (by omega) ?_ | refine RO_n 60 (by decide) (by omega) ?_ | refine RO_n 1 (by decide) (by omega) ?_ | refine RO_J (by decide) ?_ | refine RO_c (by assumption) ?_))) (zwk_s rfl (zwk_s rfl (zwk_s rfl (zwk_s rfl (zwk_n (zwk_n zwk_0))))))
                                  · skip
                                    refine zs_aload_n (pc := 112) C dX9_layPlan_112 rfl ?_
                                    refine zs_getf (pc := 113) C dX9_layPlan_113 w_X9_154 f_10_77 (by decide) ?_
                                    refine zs_iload (pc := 116) C dX9_layPlan_116 rfl ?_
                                    refine zs_aload_n (pc := 118) C dX9_layPlan_118 rfl ?_
                                    refine zs_getf (pc := 119) C dX9_layPlan_119 w_X9_151 f_10_76 (by decide) ?_
                                    refine zs_iload (pc := 122) C dX9_layPlan_122 rfl ?_
                                    refine zs_iald (r := 2101) (pc := 124) C dX9_layPlan_124 a_101 (by decide) (by omega) rfl (r_2101 _) (fun v124 e124 l124 u124 => ?_)
                                    refine zs_iast (r := 2102) (pc := 125) C dX9_layPlan_125 a_102 (by decide) (by omega) rfl (r_2102 _) (by omega) ?_
                                    first | refine zs_iinc (pc := 126) C dX9_layPlan_126 rfl (by decide) (by omega) ?_ | refine zs_iincF (pc := 126) C dX9_layPlan_126 rfl (by decide) (fun z126 hz1261 hz1262 => ?_)
                                    dsimp only [zset, zclr, znone]
                                    refine zs_goto (tgt := 106) (pc := 129) C dX9_layPlan_129 (by decide) ?_
                                    exact zs_wk (ih106 _ _ (by first | omega | (simp only [zuI_1, zuI_2, zuJ_1, zuJ_2, zuJ_3, zuP_1, zuP_2, zuP_3, zuC_1, zuC_2, reduceIte, Nat.reduceEqDiff, false_and, and_false, true_and, and_true, and_self, or_true, true_or, or_false, false_or]; omega)) (by repeat (first | exact zsm_rf | assumption | refine zsm_C (by decide) ?_ | refine zsm_I (by decide) ?_ | refine zsm_J ?_ | refine zsm_c (by assumption) (by decide) ?_)) (by repeat (first | exact zsm_rf | assumption | refine zsm_C (by decide) ?_ | refine zsm_I (by decide) ?_ | refine zsm_J ?_ | refine zsm_c (by assumption) (by decide) ?_)) (by with_reducible repeat (first | exact RO_rf | assumption | refine RO_0 (by decide) ?_ | refine RO_n 20 (by decide) (by omega) ?_ | refine RO_n 5 (by decide) (by omega) ?_ | refine RO_n 60 (by decide) (by omega) ?_ | refine RO_n 1 (by decide) (by omega) ?_ | refine RO_J (by decide) ?_ | refine RO_c (by assumption) ?_)) (by first | omega | (simp only [zuI_1, zuI_2, zuJ_1, zuJ_2, zuJ_3, zuP_1, zuP_2, zuP_3, zuC_1, zuC_2, reduceIte, Nat.reduceEqDiff, false_and, and_false, true_and, and_true, and_self, or_true, true_or, or_false, false_or]; omega))) (zwk_s rfl (zwk_s rfl (zwk_s rfl (zwk_s rfl (zwk_n (zwk_s rfl zwk_0))))))
                              exact zs_wk (L106 _ _ _ (by first | omega | (simp only [zuI_1, zuI_2, zuJ_1, zuJ_2, zuJ_3, zuP_1, zuP_2, zuP_3, zuC_1, zuC_2, reduceIte, Nat.reduceEqDiff, false_and, and_false, true_and, and_true, and_self, or_true, true_or, or_false, false_or]; omega)) (by repeat (first | exact zsm_rf | assumption | refine zsm_C (by decide) ?_ | refine zsm_I (by decide) ?_ | refine zsm_J ?_ | refine zsm_c (by assumption) (by decide) ?_)) (by repeat (first | exact zsm_rf | assumption | refine zsm_C (by decide) ?_ | refine zsm_I (by decide) ?_ | refine zsm_J ?_ | refine zsm_c (by assumption) (by decide) ?_)) (by with_reducible repeat (first | exact RO_rf | assumption | refine RO_0 (by decide) ?_ | refine RO_n 20 (by decide) (by omega) ?_ | refine RO_n 5 (by decide) (by omega) ?_ | refine RO_n 60 (by decide) (by omega) ?_ | refine RO_n 1 (by decide) (by omega) ?_ | refine RO_J (by decide) ?_ | refine RO_c (by assumption) ?_)) (Nat.lt_succ_self _)) (zwk_s rfl (zwk_s rfl (zwk_s rfl (zwk_s rfl (zwk_n (zwk_s rfl zwk_0))))))
                  exact zs_wk (L59 _ _ _ (by omega) (fun i hi => h39_2 i (by omega)) (by repeat (first | exact zsm_rf | assumption | refine zsm_C (by decide) ?_ | refine zsm_I (by decide) ?_ | refine zsm_J ?_ | refine zsm_c (by assumption) (by decide) ?_)) (by with_reducible repeat (first | exact RO_rf | assumption | refine RO_0 (by decide) ?_ | refine RO_n 20 (by decide) (by omega) ?_ | refine RO_n 5 (by decide) (by omega) ?_ | refine RO_n 60 (by decide) (by omega) ?_ | refine RO_n 1 (by decide) (by omega) ?_ | refine RO_J (by decide) ?_ | refine RO_c (by assumption) ?_)) (Nat.lt_succ_self _)) (zwk_s rfl (zwk_s rfl (zwk_s rfl (zwk_s rfl (zwk_n (zwk_n zwk_0))))))
                · skip
                  refine zs_aload_n (pc := 44) C dX9_layPlan_44 rfl ?_
                  refine zs_getf (pc := 45) C dX9_layPlan_45 w_X9_151 f_10_76 (by decide) ?_
                  refine zs_iload_n (pc := 48) C dX9_layPlan_48 rfl ?_
                  refine zs_iconst (pc := 49) C dX9_layPlan_49 (by decide) ?_
                  refine zs_iast (r := 2101) (pc := 50) C dX9_layPlan_50 a_101 (by decide) (by omega) rfl (r_2101 _) (by omega) ?_
                  first | refine zs_iinc (pc := 51) C dX9_layPlan_51 rfl (by decide) (by omega) ?_ | refine zs_iincF (pc := 51) C dX9_layPlan_51 rfl (by decide) (fun z51 hz511 hz512 => ?_)
                  dsimp only [zset, zclr, znone]
                  refine zs_goto (tgt := 39) (pc := 54) C dX9_layPlan_54 (by decide) ?_
                  exact zs_wk (ih39 _ _ (by omega) (by repeat (first | exact zsm_rf | assumption | refine zsm_C (by decide) ?_ | refine zsm_I (by decide) ?_ | refine zsm_J ?_ | refine zsm_c (by assumption) (by decide) ?_)) (lowU h39_2 h39_0.1 (by decide)) (by with_reducible repeat (first | exact RO_rf | assumption | refine RO_0 (by decide) ?_ | refine RO_n 20 (by decide) (by omega) ?_ | refine RO_n 5 (by decide) (by omega) ?_ | refine RO_n 60 (by decide) (by omega) ?_ | refine RO_n 1 (by decide) (by omega) ?_ | refine RO_J (by decide) ?_ | refine RO_c (by assumption) ?_)) (by first | omega | (simp only [zuI_1, zuI_2, zuJ_1, zuJ_2, zuJ_3, zuP_1, zuP_2, zuP_3, zuC_1, zuC_2, reduceIte, Nat.reduceEqDiff, false_and, and_false, true_and, and_true, and_self, or_true, true_or, or_false, false_or]; omega))) (zwk_s rfl (zwk_s rfl (zwk_s rfl (zwk_s rfl (zwk_n (zwk_n zwk_0))))))
            exact zs_wk (L39 _ _ _ (by omega) (by repeat (first | exact zsm_rf | assumption | refine zsm_C (by decide) ?_ | refine zsm_I (by decide) ?_ | refine zsm_J ?_ | refine zsm_c (by assumption) (by decide) ?_)) (fun i hi => absurd hi (by omega)) (by with_reducible repeat (first | exact RO_rf | assumption | refine RO_0 (by decide) ?_ | refine RO_n 20 (by decide) (by omega) ?_ | refine RO_n 5 (by decide) (by omega) ?_ | refine RO_n 60 (by decide) (by omega) ?_ | refine RO_n 1 (by decide) (by omega) ?_ | refine RO_J (by decide) ?_ | refine RO_c (by assumption) ?_)) (Nat.lt_succ_self _)) (zwk_s rfl (zwk_s rfl (zwk_s rfl (zwk_s rfl (zwk_n (zwk_n zwk_0))))))
          · skip
            refine zs_aload_n (pc := 23) C dX9_layPlan_23 rfl ?_
            refine zs_geti (r := 1013) (pc := 24) C dX9_layPlan_24 w_X9_261 f_10_13 rfl (r_1013 0) (fun v24 e24 l24 u24 => ?_)
            refine zs_if_le (tgt := 162) (pc := 27) C dX9_layPlan_27 (by decide) (fun h27 => ?_) (fun h27 => ?_)
            · skip
              exact zs_vret (pc := 162) C hr hlk dX9_layPlan_162 ⟨by repeat (first | exact zsm_rf | assumption | refine zsm_C (by decide) ?_ | refine zsm_I (by decide) ?_ | refine zsm_J ?_ | refine zsm_c (by assumption) (by decide) ?_), (by with_reducible repeat (first | exact RO_rf | assumption | refine RO_0 (by decide) ?_ | refine RO_n 20 (by decide) (by omega) ?_ | refine RO_n 5 (by decide) (by omega) ?_ | refine RO_n 60 (by decide) (by omega) ?_ | refine RO_n 1 (by decide) (by omega) ?_ | refine RO_J (by decide) ?_ | refine RO_c (by assumption) ?_)), trivial⟩
            · skip
              refine zs_aload_n (pc := 30) C dX9_layPlan_30 rfl ?_
              refine zs_geti (r := 1012) (pc := 31) C dX9_layPlan_31 w_X9_258 f_10_12 rfl (r_1012 0) (fun v31 e31 l31 u31 => ?_)
              refine zs_if_le (tgt := 162) (pc := 34) C dX9_layPlan_34 (by decide) (fun h34 => ?_) (fun h34 => ?_)
              · skip
                exact zs_vret (pc := 162) C hr hlk dX9_layPlan_162 ⟨by repeat (first | exact zsm_rf | assumption | refine zsm_C (by decide) ?_ | refine zsm_I (by decide) ?_ | refine zsm_J ?_ | refine zsm_c (by assumption) (by decide) ?_), (by with_reducible repeat (first | exact RO_rf | assumption | refine RO_0 (by decide) ?_ | refine RO_n 20 (by decide) (by omega) ?_ | refine RO_n 5 (by decide) (by omega) ?_ | refine RO_n 60 (by decide) (by omega) ?_ | refine RO_n 1 (by decide) (by omega) ?_ | refine RO_J (by decide) ?_ | refine RO_c (by assumption) ?_)), trivial⟩
              · skip
                refine zs_iconst (pc := 37) C dX9_layPlan_37 (by decide) ?_
                refine zs_istore_n (pc := 38) C dX9_layPlan_38 (by decide) ?_
                dsimp only [zset, zclr, znone]
                have L39 : ∀ (nn : Nat) (x3 : Int) (G2 : zH), (0 ≤ x3 ∧ x3 ≤ 4) → (zsm [2091, 2092, 2093, 2094, 2095, 2088, 2087, 2082, 2084, 2083, 2089, 1050, 2081, 2085, 2086, 2090, 1072, 1073, 1074, 2101, 2102, 1078, 1079] G G2) → (∀ i : Nat, (i : Int) < x3 → G2.1 2101 (Γ.2.1 w 76) i ≤ 19) → (RO G G2) → (4 - x3).toNat < nn → Z p l e (zrm 7) s m args below meth c Γ 6 0 0 (MQ below (zQc Γ (zpv (fun G' => zsm [2091, 2092, 2093, 2094, 2095, 2088, 2087, 2082, 2084, 2083, 2089, 1050, 2081, 2085, 2086, 2090, 1072, 1073, 1074, 2101, 2102, 1078, 1079] G G' ∧ RO G G' ∧ True))) args s 0 0 (zA Γ)) 39 [some (zr 10 w), some (zi c0), some (zi x2), some (zi x3), none, none] [] G2 := by
                  intro nn
                  induction nn with
                  | zero => intro x3 G2 h39_0 h39_1 h39_2 h39_3 hm; exact absurd hm (Nat.not_lt_zero _)
                  | succ nn ih39 =>
                    intro x3 G2 h39_0 h39_1 h39_2 h39_3 hm39
                    refine zs_iload_n (pc := 39) C dX9_layPlan_39 rfl ?_
                    refine zs_iconst (pc := 40) C dX9_layPlan_40 (by decide) ?_
                    refine zs_icmp_ge (tgt := 57) (pc := 41) C dX9_layPlan_41 (by decide) (fun h41 => ?_) (fun h41 => ?_)
                    · skip
                      refine zs_iconst (pc := 57) C dX9_layPlan_57 (by decide) ?_
                      refine zs_istore_n (pc := 58) C dX9_layPlan_58 (by decide) ?_
                      dsimp only [zset, zclr, znone]
                      have L59 : ∀ (nn : Nat) (x3 : Int) (G3 : zH), (x3 = 0 ∨ x3 = 1) → (∀ i : Nat, i < 4 → G3.1 2101 (Γ.2.1 w 76) i ≤ 19) → (zsm [2091, 2092, 2093, 2094, 2095, 2088, 2087, 2082, 2084, 2083, 2089, 1050, 2081, 2085, 2086, 2090, 1072, 1073, 1074, 2101, 2102, 1078, 1079] G G3) → (RO G G3) → lpm x3 (zod 25 (G3.1 2101 (Γ.2.1 w 76)) 4) < nn → Z p l e (zrm 7) s m args below meth c Γ 6 0 0 (MQ below (zQc Γ (zpv (fun G' => zsm [2091, 2092, 2093, 2094, 2095, 2088, 2087, 2082, 2084, 2083, 2089, 1050, 2081, 2085, 2086, 2090, 1072, 1073, 1074, 2101, 2102, 1078, 1079] G G' ∧ RO G G' ∧ True))) args s 0 0 (zA Γ)) 59 [some (zr 10 w), some (zi c0), some (zi x2), some (zi x3), none, none] [] G3 := by
                        intro nn
                        induction nn with
                        | zero => intro x3 G3 h59_0 h59_1 h59_2 h59_3 hm; exact absurd hm (Nat.not_lt_zero _)
                        | succ nn ih59 =>
                          intro x3 G3 h59_0 h59_1 h59_2 h59_3 hm59
                          refine zs_iload_n (pc := 59) C dX9_layPlan_59 rfl ?_
                          refine zs_if_eq (tgt := 156) (pc := 60) C dX9_layPlan_60 (by decide) (fun h60 => ?_) (fun h60 => ?_)
                          · skip
                            first | refine zs_iinc (pc := 156) C dX9_layPlan_156 rfl (by decide) (by omega) ?_ | refine zs_iincF (pc := 156) C dX9_layPlan_156 rfl (by decide) (fun z156 hz1561 hz1562 => ?_)
                            dsimp only [zset, zclr, znone]
                            refine zs_goto (tgt := 7) (pc := 159) C dX9_layPlan_159 (by decide) ?_
                            exact zs_wk (ih7 _ _ (by first | omega | (simp only [zuI_1, zuI_2, zuJ_1, zuJ_2, zuJ_3, zuP_1, zuP_2, zuP_3, zuC_1, zuC_2, reduceIte, Nat.reduceEqDiff, false_and, and_false, true_and, and_true, and_self, or_true, true_or, or_false, false_or]; omega)) (by repeat (first | exact zsm_rf | assumption | refine zsm_C (by decide) ?_ | refine zsm_I (by decide) ?_ | refine zsm_J ?_ | refine zsm_c (by assumption) (by decide) ?_)) (by with_reducible repeat (first | exact RO_rf | assumption | refine RO_0 (by decide) ?_ | refine RO_n 20 (by decide) (by omega) ?_ | refine RO_n 5 (by decide) (by omega) ?_ | refine RO_n 60 (by decide) (by omega) ?_ | refine RO_n 1 (by decide) (by omega) ?_ | refine RO_J (by decide) ?_ | refine RO_c (by assumption) ?_)) (by first | omega | (simp only [zuI_1, zuI_2, zuJ_1, zuJ_2, zuJ_3, zuP_1, zuP_2, zuP_3, zuC_1, zuC_2, reduceIte, Nat.reduceEqDiff, false_and, and_false, true_and, and_true, and_self, or_true, true_or, or_false, false_or]; omega))) (zwk_s rfl (zwk_s rfl (zwk_s rfl (zwk_n (zwk_n (zwk_n zwk_0))))))
                          · skip
                            refine zs_aload_n (pc := 63) C dX9_layPlan_63 rfl ?_
                            refine zs_iload_n (pc := 64) C dX9_layPlan_64 rfl ?_
                            refine zs_iload_n (pc := 65) C dX9_layPlan_65 rfl ?_
                            refine zVi2 (pc := 66) C dX9_layPlan_66 v_X9_504 (c_X9_fallsByO hX (by repeat (first | assumption | refine MI_I (by decide) ?_ | refine MI_J ?_ | refine MI_sm (by assumption) (by decide) ?_ | refine MI_sn (by assumption) (by decide) ?_)) (by omega) (by omega) (by omega)) (by decide) (by decide) ⟨Nat.zero_le _, Nat.zero_le _⟩ (Nat.le_of_ble_eq_true rfl) (fun x66 G66 l66 u66 hp66 => ?_)
                            obtain ⟨hz66, lo66, hq66⟩ := hp66
                            refine zs_istore (pc := 69) C dX9_layPlan_69 (by decide) ?_
                            dsimp only [zset, zclr, znone]
                            have J132 : ∀ (G5 : zH), (zsm [2091, 2092, 2093, 2094, 2095, 2088, 2087, 2082, 2084, 2083, 2089, 1050, 2081, 2085, 2086, 2090, 1072, 1073, 1074, 2101, 2102, 1078, 1079] G G5) → (G5.1 2101 = G3.1 2101) → (RO G G5) → Z p l e (zrm 7) s m args below meth c Γ 6 0 0 (MQ below (zQc Γ (zpv (fun G' => zsm [2091, 2092, 2093, 2094, 2095, 2088, 2087, 2082, 2084, 2083, 2089, 1050, 2081, 2085, 2086, 2090, 1072, 1073, 1074, 2101, 2102, 1078, 1079] G G' ∧ RO G G' ∧ True))) args s 0 0 (zA Γ)) 132 [some (zr 10 w), some (zi c0), some (zi x2), some (zi x3), none, none] [] G5 := by
                              intro G5 h132_0 h132_1 h132_2
                              have hr5 : ∀ i : Nat, i < 4 → G5.1 2101 (Γ.2.1 w 76) i ≤ 19 := fun i hi => by rw [h132_1]; exact h59_1 i hi
                              refine zs_good (fun hGd5 => ?_)
                              have hzb := zod4_b (row24 hGd5 (Γ.2.1 w 76))
                              rw [h132_1] at hzb
                              refine zs_aload_n (pc := 132) C dX9_layPlan_132 rfl ?_
                              refine zs_geti (r := 1078) (pc := 133) C dX9_layPlan_133 w_X9_501 f_10_78 rfl (r_1078 0) (fun v133 e133 l133 u133 => ?_)
                              refine zs_if_eq (tgt := 151) (pc := 136) C dX9_layPlan_136 (by decide) (fun h136 => ?_) (fun h136 => ?_)
                              · skip
                                refine zs_iconst (pc := 151) C dX9_layPlan_151 (by decide) ?_
                                refine zs_istore_n (pc := 152) C dX9_layPlan_152 (by decide) ?_
                                dsimp only [zset, zclr, znone]
                                refine zs_goto (tgt := 59) (pc := 153) C dX9_layPlan_153 (by decide) ?_
                                exact zs_wk (ih59 _ _ (by omega) (by first | exact hq141.2.1 | exact hr5) (by repeat (first | exact zsm_rf | assumption | refine zsm_C (by decide) ?_ | refine zsm_I (by decide) ?_ | refine zsm_J ?_ | refine zsm_c (by assumption) (by decide) ?_)) (by with_reducible repeat (first | exact RO_rf | assumption | refine RO_0 (by decide) ?_ | refine RO_n 20 (by decide) (by omega) ?_ | refine RO_n 5 (by decide) (by omega) ?_ | refine RO_n 60 (by decide) (by omega) ?_ | refine RO_n 1 (by decide) (by omega) ?_ | refine RO_J (by decide) ?_ | refine RO_c (by assumption) ?_)) (by first | exact lpm_s0 hm59 h60 hzb | exact lpm_s1 hm59 h60 (hq5 (by omega)) hzb6)) (zwk_s rfl (zwk_s rfl (zwk_s rfl (zwk_s rfl (zwk_n (zwk_n zwk_0))))))
                              · skip
                                refine zs_aload_n (pc := 139) C dX9_layPlan_139 rfl ?_
                                refine zs_iload_n (pc := 140) C dX9_layPlan_140 rfl ?_
                                refine zVi1 (pc := 141) C dX9_layPlan_141 v_X9_510 (c_X9_nextRowO hX (by omega) (by omega)) (by decide) (by decide) ⟨Nat.zero_le _, Nat.zero_le _⟩ (Nat.le_of_ble_eq_true rfl) (fun x141 G141 l141 u141 hp141 => ?_)
                                obtain ⟨hz141, lo141, hq141⟩ := hp141
                                have hq5 := hq141.2.2
                                rw [h132_1] at hq5
                                refine zs_good (fun hGd6 => ?_)
                                have hzb6 := zod4_b (row24 hGd6 (Γ.2.1 w 76))
                                refine zs_if_eq (tgt := 151) (pc := 144) C dX9_layPlan_144 (by decide) (fun h144 => ?_) (fun h144 => ?_)
                                · skip
                                  refine zs_iconst (pc := 151) C dX9_layPlan_151 (by decide) ?_
                                  refine zs_istore_n (pc := 152) C dX9_layPlan_152 (by decide) ?_
                                  dsimp only [zset, zclr, znone]
                                  refine zs_goto (tgt := 59) (pc := 153) C dX9_layPlan_153 (by decide) ?_
                                  exact zs_wk (ih59 _ _ (by omega) (by first | exact hq141.2.1 | exact hr5) (by repeat (first | exact zsm_rf | assumption | refine zsm_C (by decide) ?_ | refine zsm_I (by decide) ?_ | refine zsm_J ?_ | refine zsm_c (by assumption) (by decide) ?_)) (by with_reducible repeat (first | exact RO_rf | assumption | refine RO_0 (by decide) ?_ | refine RO_n 20 (by decide) (by omega) ?_ | refine RO_n 5 (by decide) (by omega) ?_ | refine RO_n 60 (by decide) (by omega) ?_ | refine RO_n 1 (by decide) (by omega) ?_ | refine RO_J (by decide) ?_ | refine RO_c (by assumption) ?_)) (by first | exact lpm_s0 hm59 h60 hzb | exact lpm_s1 hm59 h60 (hq5 (by omega)) hzb6)) (zwk_s rfl (zwk_s rfl (zwk_s rfl (zwk_s rfl (zwk_n (zwk_n zwk_0))))))
                                · skip
                                  refine zs_iconst (pc := 147) C dX9_layPlan_147 (by decide) ?_
                                  refine zs_goto (tgt := 152) (pc := 148) C dX9_layPlan_148 (by decide) ?_
                                  refine zs_istore_n (pc := 152) C dX9_layPlan_152 (by decide) ?_
                                  dsimp only [zset, zclr, znone]
                                  refine zs_goto (tgt := 59) (pc := 153) C dX9_layPlan_153 (by decide) ?_
                                  exact zs_wk (ih59 _ _ (by omega) (by first | exact hq141.2.1 | exact hr5) (by repeat (first | exact zsm_rf | assumption | refine zsm_C (by decide) ?_ | refine zsm_I (by decide) ?_ | refine zsm_J ?_ | refine zsm_c (by assumption) (by decide) ?_)) (by with_reducible repeat (first | exact RO_rf | assumption | refine RO_0 (by decide) ?_ | refine RO_n 20 (by decide) (by omega) ?_ | refine RO_n 5 (by decide) (by omega) ?_ | refine RO_n 60 (by decide) (by omega) ?_ | refine RO_n 1 (by decide) (by omega) ?_ | refine RO_J (by decide) ?_ | refine RO_c (by assumption) ?_)) (by first | exact lpm_s0 hm59 h60 hzb | exact lpm_s1 hm59 h60 (hq5 (by omega)) hzb6)) (zwk_s rfl (zwk_s rfl (zwk_s rfl (zwk_s rfl (zwk_n (zwk_n zwk_0))))))
                            refine zs_iload (pc := 71) C dX9_layPlan_71 rfl ?_
                            refine zs_if_lt (tgt := 132) (pc := 73) C dX9_layPlan_73 (by decide) (fun h73 => ?_) (fun h73 => ?_)
                            · skip
                              exact zs_wk (J132 _ (by repeat (first | exact zsm_rf | assumption | refine zsm_C (by decide) ?_ | refine zsm_I (by decide) ?_ | refine zsm_J ?_ | refine zsm_c (by assumption) (by decide) ?_)) (by first | exact hz66.1 2101 (by decide) | exact (h106_2.1 2101 (by decide)).trans (hz66.1 2101 (by decide))) (by with_reducible repeat (first | exact RO_rf | assumption | refine RO_0 (by decide) ?_ | refine RO_n 20 (by decide) (by omega) ?_ | refine RO_n 5 (by decide) (by omega) ?_ | refine RO_n 60 (by decide) (by omega) ?_ | refine RO_n 1 (by decide) (by omega) ?_ | refine RO_J (by decide) ?_ | refine RO_c (by assumption) ?_))) (zwk_s rfl (zwk_s rfl (zwk_s rfl (zwk_s rfl (zwk_n (zwk_n zwk_0))))))
                            · skip
                              refine zs_aload_n (pc := 76) C dX9_layPlan_76 rfl ?_
                              refine zs_geti (r := 1078) (pc := 77) C dX9_layPlan_77 w_X9_501 f_10_78 rfl (r_1078 0) (fun v77 e77 l77 u77 => ?_)
                              refine zs_if_lt (tgt := 92) (pc := 80) C dX9_layPlan_80 (by decide) (fun h80 => ?_) (fun h80 => ?_)
                              · skip
                                refine zs_aload_n (pc := 92) C dX9_layPlan_92 rfl ?_
                                refine zs_iload (pc := 93) C dX9_layPlan_93 rfl ?_
                                refine zs_puti (r := 1078) (pc := 95) C dX9_layPlan_95 w_X9_501 f_10_78 rfl (r_1078 0) (by omega) ?_
                                refine zs_aload_n (pc := 98) C dX9_layPlan_98 rfl ?_
                                refine zs_iload_n (pc := 99) C dX9_layPlan_99 rfl ?_
                                refine zs_puti (r := 1079) (pc := 100) C dX9_layPlan_100 w_X9_507 f_10_79 rfl (r_1079 0) (by omega) ?_
                                refine zs_iconst (pc := 103) C dX9_layPlan_103 (by decide) ?_
                                refine zs_istore (pc := 104) C dX9_layPlan_104 (by decide) ?_
                                dsimp only [zset, zclr, znone]
                                have L106 : ∀ (nn : Nat) (x5 : Int) (G6 : zH), (0 ≤ x5 ∧ x5 ≤ 4) → (zsm [2091, 2092, 2093, 2094, 2095, 2088, 2087, 2082, 2084, 2083, 2089, 1050, 2081, 2085, 2086, 2090, 1072, 1073, 1074, 2101, 2102, 1078, 1079] G G6) → (zsm [2102, 1078, 1079] G66 G6) → (RO G G6) → (4 - x5).toNat < nn → Z p l e (zrm 7) s m args below meth c Γ 6 0 0 (MQ below (zQc Γ (zpv (fun G' => zsm [2091, 2092, 2093, 2094, 2095, 2088, 2087, 2082, 2084, 2083, 2089, 1050, 2081, 2085, 2086, 2090, 1072, 1073, 1074, 2101, 2102, 1078, 1079] G G' ∧ RO G G' ∧ True))) args s 0 0 (zA Γ)) 106 [some (zr 10 w), some (zi c0), some (zi x2), some (zi x3), none, some (zi x5)] [] G6 := by
                                  intro nn
                                  induction nn with
                                  | zero => intro x5 G6 h106_0 h106_1 h106_2 h106_3 hm; exact absurd hm (Nat.not_lt_zero _)
                                  | succ nn ih106 =>
                                    intro x5 G6 h106_0 h106_1 h106_2 h106_3 hm106
                                    refine zs_iload (pc := 106) C dX9_layPlan_106 rfl ?_
                                    refine zs_iconst (pc := 108) C dX9_layPlan_108 (by decide) ?_
                                    refine zs_icmp_ge (tgt := 132) (pc := 109) C dX9_layPlan_109 (by decide) (fun h109 => ?_) (fun h109 => ?_)
                                    · skip
                                      exact zs_wk (J132 _ (by repeat (first | exact zsm_rf | assumption | refine zsm_C (by decide) ?_ | refine zsm_I (by decide) ?_ | refine zsm_J ?_ | refine zsm_c (by assumption) (by decide) ?_)) (by first | exact hz66.1 2101 (by decide) | exact (h106_2.1 2101 (by decide)).trans (hz66.1 2101 (by decide))) (by with_reducible repeat (first | exact RO_rf | assumption | refine RO_0 (by decide) ?_ | refine RO_n 20 (by decide) (by omega) ?_ | refine RO_n 5 (by decide) (by omega) ?_ | refine RO_n 60 (by decide) (by omega) ?_ | refine RO_n 1 (by decide) (by omega) ?_ | refine RO_J (by decide) ?_ | refine RO_c (by assumption) ?_))) (zwk_s rfl (zwk_s rfl (zwk_s rfl (zwk_s rfl (zwk_n (zwk_n zwk_0))))))
                                    · skip
                                      refine zs_aload_n (pc := 112) C dX9_layPlan_112 rfl ?_
                                      refine zs_getf (pc := 113) C dX9_layPlan_113 w_X9_154 f_10_77 (by decide) ?_
                                      refine zs_iload (pc := 116) C dX9_layPlan_116 rfl ?_
                                      refine zs_aload_n (pc := 118) C dX9_layPlan_118 rfl ?_
                                      refine zs_getf (pc := 119) C dX9_layPlan_119 w_X9_151 f_10_76 (by decide) ?_
                                      refine zs_iload (pc := 122) C dX9_layPlan_122 rfl ?_
                                      refine zs_iald (r := 2101) (pc := 124) C dX9_layPlan_124 a_101 (by decide) (by omega) rfl (r_2101 _) (fun v124 e124 l124 u124 => ?_)
                                      refine zs_iast (r := 2102) (pc := 125) C dX9_layPlan_125 a_102 (by decide) (by omega) rfl (r_2102 _) (by omega) ?_
                                      first | refine zs_iinc (pc := 126) C dX9_layPlan_126 rfl (by decide) (by omega) ?_ | refine zs_iincF (pc := 126) C dX9_layPlan_126 rfl (by decide) (fun z126 hz1261 hz1262 => ?_)
                                      dsimp only [zset, zclr, znone]
                                      refine zs_goto (tgt := 106) (pc := 129) C dX9_layPlan_129 (by decide) ?_
                                      exact zs_wk (ih106 _ _ (by first | omega | (simp only [zuI_1, zuI_2, zuJ_1, zuJ_2, zuJ_3, zuP_1, zuP_2, zuP_3, zuC_1, zuC_2, reduceIte, Nat.reduceEqDiff, false_and, and_false, true_and, and_true, and_self, or_true, true_or, or_false, false_or]; omega)) (by repeat (first | exact zsm_rf | assumption | refine zsm_C (by decide) ?_ | refine zsm_I (by decide) ?_ | refine zsm_J ?_ | refine zsm_c (by assumption) (by decide) ?_)) (by repeat (first | exact zsm_rf | assumption | refine zsm_C (by decide) ?_ | refine zsm_I (by decide) ?_ | refine zsm_J ?_ | refine zsm_c (by assumption) (by decide) ?_)) (by with_reducible repeat (first | exact RO_rf | assumption | refine RO_0 (by decide) ?_ | refine RO_n 20 (by decide) (by omega) ?_ | refine RO_n 5 (by decide) (by omega) ?_ | refine RO_n 60 (by decide) (by omega) ?_ | refine RO_n 1 (by decide) (by omega) ?_ | refine RO_J (by decide) ?_ | refine RO_c (by assumption) ?_)) (by first | omega | (simp only [zuI_1, zuI_2, zuJ_1, zuJ_2, zuJ_3, zuP_1, zuP_2, zuP_3, zuC_1, zuC_2, reduceIte, Nat.reduceEqDiff, false_and, and_false, true_and, and_true, and_self, or_true, true_or, or_false, false_or]; omega))) (zwk_s rfl (zwk_s rfl (zwk_s rfl (zwk_s rfl (zwk_n (zwk_s rfl zwk_0))))))
                                exact zs_wk (L106 _ _ _ (by first | omega | (simp only [zuI_1, zuI_2, zuJ_1, zuJ_2, zuJ_3, zuP_1, zuP_2, zuP_3, zuC_1, zuC_2, reduceIte, Nat.reduceEqDiff, false_and, and_false, true_and, and_true, and_self, or_true, true_or, or_false, false_or]; omega)) (by repeat (first | exact zsm_rf | assumption | refine zsm_C (by decide) ?_ | refine zsm_I (by decide) ?_ | refine zsm_J ?_ | refine zsm_c (by assumption) (by decide) ?_)) (by repeat (first | exact zsm_rf | assumption | refine zsm_C (by decide) ?_ | refine zsm_I (by decide) ?_ | refine zsm_J ?_ | refine zsm_c (by assumption) (by decide) ?_)) (by with_reducible repeat (first | exact RO_rf | assumption | refine RO_0 (by decide) ?_ | refine RO_n 20 (by decide) (by omega) ?_ | refine RO_n 5 (by decide) (by omega) ?_ | refine RO_n 60 (by decide) (by omega) ?_ | refine RO_n 1 (by decide) (by omega) ?_ | refine RO_J (by decide) ?_ | refine RO_c (by assumption) ?_)) (Nat.lt_succ_self _)) (zwk_s rfl (zwk_s rfl (zwk_s rfl (zwk_s rfl (zwk_n (zwk_s rfl zwk_0))))))
                              · skip
                                refine zs_iload (pc := 83) C dX9_layPlan_83 rfl ?_
                                refine zs_aload_n (pc := 85) C dX9_layPlan_85 rfl ?_
                                refine zs_geti (r := 1078) (pc := 86) C dX9_layPlan_86 w_X9_501 f_10_78 rfl (r_1078 0) (fun v86 e86 l86 u86 => ?_)
                                refine zs_icmp_ge (tgt := 132) (pc := 89) C dX9_layPlan_89 (by decide) (fun h89 => ?_) (fun h89 => ?_)
                                · skip
                                  exact zs_wk (J132 _ (by repeat (first | exact zsm_rf | assumption | refine zsm_C (by decide) ?_ | refine zsm_I (by decide) ?_ | refine zsm_J ?_ | refine zsm_c (by assumption) (by decide) ?_)) (by first | exact hz66.1 2101 (by decide) | exact (h106_2.1 2101 (by decide)).trans (hz66.1 2101 (by decide))) (by with_reducible repeat (first | exact RO_rf | assumption | refine RO_0 (by decide) ?_ | refine RO_n 20 (by decide) (by omega) ?_ | refine RO_n 5 (by decide) (by omega) ?_ | refine RO_n 60 (by decide) (by omega) ?_ | refine RO_n 1 (by decide) (by omega) ?_ | refine RO_J (by decide) ?_ | refine RO_c (by assumption) ?_))) (zwk_s rfl (zwk_s rfl (zwk_s rfl (zwk_s rfl (zwk_n (zwk_n zwk_0))))))
                                · skip
                                  refine zs_aload_n (pc := 92) C dX9_layPlan_92 rfl ?_
                                  refine zs_iload (pc := 93) C dX9_layPlan_93 rfl ?_
                                  refine zs_puti (r := 1078) (pc := 95) C dX9_layPlan_95 w_X9_501 f_10_78 rfl (r_1078 0) (by omega) ?_
                                  refine zs_aload_n (pc := 98) C dX9_layPlan_98 rfl ?_
                                  refine zs_iload_n (pc := 99) C dX9_layPlan_99 rfl ?_
                                  refine zs_puti (r := 1079) (pc := 100) C dX9_layPlan_100 w_X9_507 f_10_79 rfl (r_1079 0) (by omega) ?_
                                  refine zs_iconst (pc := 103) C dX9_layPlan_103 (by decide) ?_
                                  refine zs_istore (pc := 104) C dX9_layPlan_104 (by decide) ?_
                                  dsimp only [zset, zclr, znone]
                                  have L106 : ∀ (nn : Nat) (x5 : Int) (G6 : zH), (0 ≤ x5 ∧ x5 ≤ 4) → (zsm [2091, 2092, 2093, 2094, 2095, 2088, 2087, 2082, 2084, 2083, 2089, 1050, 2081, 2085, 2086, 2090, 1072, 1073, 1074, 2101, 2102, 1078, 1079] G G6) → (zsm [2102, 1078, 1079] G66 G6) → (RO G G6) → (4 - x5).toNat < nn → Z p l e (zrm 7) s m args below meth c Γ 6 0 0 (MQ below (zQc Γ (zpv (fun G' => zsm [2091, 2092, 2093, 2094, 2095, 2088, 2087, 2082, 2084, 2083, 2089, 1050, 2081, 2085, 2086, 2090, 1072, 1073, 1074, 2101, 2102, 1078, 1079] G G' ∧ RO G G' ∧ True))) args s 0 0 (zA Γ)) 106 [some (zr 10 w), some (zi c0), some (zi x2), some (zi x3), none, some (zi x5)] [] G6 := by
                                    intro nn
                                    induction nn with
                                    | zero => intro x5 G6 h106_0 h106_1 h106_2 h106_3 hm; exact absurd hm (Nat.not_lt_zero _)
                                    | succ nn ih106 =>
                                      intro x5 G6 h106_0 h106_1 h106_2 h106_3 hm106
                                      refine zs_iload (pc := 106) C dX9_layPlan_106 rfl ?_
                                      refine zs_iconst (pc := 108) C dX9_layPlan_108 (by decide) ?_
                                      refine zs_icmp_ge (tgt := 132) (pc := 109) C dX9_layPlan_109 (by decide) (fun h109 => ?_) (fun h109 => ?_)
                                      · skip
                                        exact zs_wk (J132 _ (by repeat (first | exact zsm_rf | assumption | refine zsm_C (by decide) ?_ | refine zsm_I (by decide) ?_ | refine zsm_J ?_ | refine zsm_c (by assumption) (by decide) ?_)) (by first | exact hz66.1 2101 (by decide) | exact (h106_2.1 2101 (by decide)).trans (hz66.1 2101 (by decide))) (by with_reducible repeat (first | exact RO_rf | assumption | refine RO_0 (by decide) ?_ | refine RO_n 20 (by decide) (by omega) ?_ | refine RO_n 5 (by decide) (by omega) ?_ | refine RO_n 60 (by decide) (by omega) ?_ | refine RO_n 1 (by decide) (by omega) ?_ | refine RO_J (by decide) ?_ | refine RO_c (by assumption) ?_))) (zwk_s rfl (zwk_s rfl (zwk_s rfl (zwk_s rfl (zwk_n (zwk_n zwk_0))))))
                                      · skip
                                        refine zs_aload_n (pc := 112) C dX9_layPlan_112 rfl ?_
                                        refine zs_getf (pc := 113) C dX9_layPlan_113 w_X9_154 f_10_77 (by decide) ?_
                                        refine zs_iload (pc := 116) C dX9_layPlan_116 rfl ?_
                                        refine zs_aload_n (pc := 118) C dX9_layPlan_118 rfl ?_
                                        refine zs_getf (pc := 119) C dX9_layPlan_119 w_X9_151 f_10_76 (by decide) ?_
                                        refine zs_iload (pc := 122) C dX9_layPlan_122 rfl ?_
                                        refine zs_iald (r := 2101) (pc := 124) C dX9_layPlan_124 a_101 (by decide) (by omega) rfl (r_2101 _) (fun v124 e124 l124 u124 => ?_)
                                        refine zs_iast (r := 2102) (pc := 125) C dX9_layPlan_125 a_102 (by decide) (by omega) rfl (r_2102 _) (by omega) ?_
                                        first | refine zs_iinc (pc := 126) C dX9_layPlan_126 rfl (by decide) (by omega) ?_ | refine zs_iincF (pc := 126) C dX9_layPlan_126 rfl (by decide) (fun z126 hz1261 hz1262 => ?_)
                                        dsimp only [zset, zclr, znone]
                                        refine zs_goto (tgt := 106) (pc := 129) C dX9_layPlan_129 (by decide) ?_
                                        exact zs_wk (ih106 _ _ (by first | omega | (simp only [zuI_1, zuI_2, zuJ_1, zuJ_2, zuJ_3, zuP_1, zuP_2, zuP_3, zuC_1, zuC_2, reduceIte, Nat.reduceEqDiff, false_and, and_false, true_and, and_true, and_self, or_true, true_or, or_false, false_or]; omega)) (by repeat (first | exact zsm_rf | assumption | refine zsm_C (by decide) ?_ | refine zsm_I (by decide) ?_ | refine zsm_J ?_ | refine zsm_c (by assumption) (by decide) ?_)) (by repeat (first | exact zsm_rf | assumption | refine zsm_C (by decide) ?_ | refine zsm_I (by decide) ?_ | refine zsm_J ?_ | refine zsm_c (by assumption) (by decide) ?_)) (by with_reducible repeat (first | exact RO_rf | assumption | refine RO_0 (by decide) ?_ | refine RO_n 20 (by decide) (by omega) ?_ | refine RO_n 5 (by decide) (by omega) ?_ | refine RO_n 60 (by decide) (by omega) ?_ | refine RO_n 1 (by decide) (by omega) ?_ | refine RO_J (by decide) ?_ | refine RO_c (by assumption) ?_)) (by first | omega | (simp only [zuI_1, zuI_2, zuJ_1, zuJ_2, zuJ_3, zuP_1, zuP_2, zuP_3, zuC_1, zuC_2, reduceIte, Nat.reduceEqDiff, false_and, and_false, true_and, and_true, and_self, or_true, true_or, or_false, false_or]; omega))) (zwk_s rfl (zwk_s rfl (zwk_s rfl (zwk_s rfl (zwk_n (zwk_s rfl zwk_0))))))
                                  exact zs_wk (L106 _ _ _ (by first | omega | (simp only [zuI_1, zuI_2, zuJ_1, zuJ_2, zuJ_3, zuP_1, zuP_2, zuP_3, zuC_1, zuC_2, reduceIte, Nat.reduceEqDiff, false_and, and_false, true_and, and_true, and_self, or_true, true_or, or_false, false_or]; omega)) (by repeat (first | exact zsm_rf | assumption | refine zsm_C (by decide) ?_ | refine zsm_I (by decide) ?_ | refine zsm_J ?_ | refine zsm_c (by assumption) (by decide) ?_)) (by repeat (first | exact zsm_rf | assumption | refine zsm_C (by decide) ?_ | refine zsm_I (by decide) ?_ | refine zsm_J ?_ | refine zsm_c (by assumption) (by decide) ?_)) (by with_reducible repeat (first | exact RO_rf | assumption | refine RO_0 (by decide) ?_ | refine RO_n 20 (by decide) (by omega) ?_ | refine RO_n 5 (by decide) (by omega) ?_ | refine RO_n 60 (by decide) (by omega) ?_ | refine RO_n 1 (by decide) (by omega) ?_ | refine RO_J (by decide) ?_ | refine RO_c (by assumption) ?_)) (Nat.lt_succ_self _)) (zwk_s rfl (zwk_s rfl (zwk_s rfl (zwk_s rfl (zwk_n (zwk_s rfl zwk_0))))))
                      exact zs_wk (L59 _ _ _ (by omega) (fun i hi => h39_2 i (by omega)) (by repeat (first | exact zsm_rf | assumption | refine zsm_C (by decide) ?_ | refine zsm_I (by decide) ?_ | refine zsm_J ?_ | refine zsm_c (by assumption) (by decide) ?_)) (by with_reducible repeat (first | exact RO_rf | assumption | refine RO_0 (by decide) ?_ | refine RO_n 20 (by decide) (by omega) ?_ | refine RO_n 5 (by decide) (by omega) ?_ | refine RO_n 60 (by decide) (by omega) ?_ | refine RO_n 1 (by decide) (by omega) ?_ | refine RO_J (by decide) ?_ | refine RO_c (by assumption) ?_)) (Nat.lt_succ_self _)) (zwk_s rfl (zwk_s rfl (zwk_s rfl (zwk_s rfl (zwk_n (zwk_n zwk_0))))))
                    · skip
                      refine zs_aload_n (pc := 44) C dX9_layPlan_44 rfl ?_
                      refine zs_getf (pc := 45) C dX9_layPlan_45 w_X9_151 f_10_76 (by decide) ?_
                      refine zs_iload_n (pc := 48) C dX9_layPlan_48 rfl ?_
                      refine zs_iconst (pc := 49) C dX9_layPlan_49 (by decide) ?_
                      refine zs_iast (r := 2101) (pc := 50) C dX9_layPlan_50 a_101 (by decide) (by omega) rfl (r_2101 _) (by omega) ?_
                      first | refine zs_iinc (pc := 51) C dX9_layPlan_51 rfl (by decide) (by omega) ?_ | refine zs_iincF (pc := 51) C dX9_layPlan_51 rfl (by decide) (fun z51 hz511 hz512 => ?_)
                      dsimp only [zset, zclr, znone]
                      refine zs_goto (tgt := 39) (pc := 54) C dX9_layPlan_54 (by decide) ?_
                      exact zs_wk (ih39 _ _ (by omega) (by repeat (first | exact zsm_rf | assumption | refine zsm_C (by decide) ?_ | refine zsm_I (by decide) ?_ | refine zsm_J ?_ | refine zsm_c (by assumption) (by decide) ?_)) (lowU h39_2 h39_0.1 (by decide)) (by with_reducible repeat (first | exact RO_rf | assumption | refine RO_0 (by decide) ?_ | refine RO_n 20 (by decide) (by omega) ?_ | refine RO_n 5 (by decide) (by omega) ?_ | refine RO_n 60 (by decide) (by omega) ?_ | refine RO_n 1 (by decide) (by omega) ?_ | refine RO_J (by decide) ?_ | refine RO_c (by assumption) ?_)) (by first | omega | (simp only [zuI_1, zuI_2, zuJ_1, zuJ_2, zuJ_3, zuP_1, zuP_2, zuP_3, zuC_1, zuC_2, reduceIte, Nat.reduceEqDiff, false_and, and_false, true_and, and_true, and_self, or_true, true_or, or_false, false_or]; omega))) (zwk_s rfl (zwk_s rfl (zwk_s rfl (zwk_s rfl (zwk_n (zwk_n zwk_0))))))
                exact zs_wk (L39 _ _ _ (by omega) (by repeat (first | exact zsm_rf | assumption | refine zsm_C (by decide) ?_ | refine zsm_I (by decide) ?_ | refine zsm_J ?_ | refine zsm_c (by assumption) (by decide) ?_)) (fun i hi => absurd hi (by omega)) (by with_reducible repeat (first | exact RO_rf | assumption | refine RO_0 (by decide) ?_ | refine RO_n 20 (by decide) (by omega) ?_ | refine RO_n 5 (by decide) (by omega) ?_ | refine RO_n 60 (by decide) (by omega) ?_ | refine RO_n 1 (by decide) (by omega) ?_ | refine RO_J (by decide) ?_ | refine RO_c (by assumption) ?_)) (Nat.lt_succ_self _)) (zwk_s rfl (zwk_s rfl (zwk_s rfl (zwk_s rfl (zwk_n (zwk_n zwk_0))))))
  exact zs_wk (L7 _ _ _ (by first | omega | (simp only [zuI_1, zuI_2, zuJ_1, zuJ_2, zuJ_3, zuP_1, zuP_2, zuP_3, zuC_1, zuC_2, reduceIte, Nat.reduceEqDiff, false_and, and_false, true_and, and_true, and_self, or_true, true_or, or_false, false_or]; omega)) (by repeat (first | exact zsm_rf | assumption | refine zsm_C (by decide) ?_ | refine zsm_I (by decide) ?_ | refine zsm_J ?_ | refine zsm_c (by assumption) (by decide) ?_)) (by with_reducible repeat (first | exact RO_rf | assumption | refine RO_0 (by decide) ?_ | refine RO_n 20 (by decide) (by omega) ?_ | refine RO_n 5 (by decide) (by omega) ?_ | refine RO_n 60 (by decide) (by omega) ?_ | refine RO_n 1 (by decide) (by omega) ?_ | refine RO_J (by decide) ?_ | refine RO_c (by assumption) ?_)) (Nat.lt_succ_self _)) (zwk_s rfl (zwk_s rfl (zwk_s rfl (zwk_n (zwk_n (zwk_n zwk_0))))))

set_option maxHeartbeats 4000000 in
set_option maxRecDepth 100000 in
theorem c_X9_planO {l : Launch} {Γ : zΓ} {G : zH} {w : Nat} {a b : Int} (hX : zXs Γ) (hM : MI Γ w G) : zMet l Γ yX9_plan cX9_plan 3 (some .int) 8 [zr 10 w, zi a, zi b] G (zpi (fun x G' => zsm [2091, 2092, 2093, 2094, 2095, 2088, 2087, 2082, 2084, 2083, 2089, 1050, 2081, 2085, 2086, 2090, 1072, 1073, 1074, 2101, 2102, 1078, 1079, 1002] G G' ∧ RO G G' ∧ True)) := by
  refine zMet_of RX9 hX (by decide) rfl (Nat.le_of_ble_eq_true rfl) ?_
  intro p e s m args below meth c C hr hlk
  show Z p l e (zrm 8) s m args below meth c Γ 3 0 0 (MQ below (zQc Γ (zpi (fun x G' => zsm [2091, 2092, 2093, 2094, 2095, 2088, 2087, 2082, 2084, 2083, 2089, 1050, 2081, 2085, 2086, 2090, 1072, 1073, 1074, 2101, 2102, 1078, 1079, 1002] G G' ∧ RO G G' ∧ True))) args s 0 0 (zA Γ)) 0 [some (zr 10 w), some (zi a), some (zi b)] [] G
  refine zs_loc 1 rfl (fun ha1 hb1 => ?_)
  refine zs_loc 2 rfl (fun ha2 hb2 => ?_)
  refine zs_aload_n (pc := 0) C dX9_plan_0 rfl ?_
  refine zs_iconst (pc := 1) C dX9_plan_1 (by decide) ?_
  refine zs_puti (r := 1002) (pc := 2) C dX9_plan_2 w_X9_178 f_10_2 rfl (r_1002 0) (by omega) ?_
  refine zs_aload_n (pc := 5) C dX9_plan_5 rfl ?_
  refine zs_iload_n (pc := 6) C dX9_plan_6 rfl ?_
  refine zVip1 (pc := 7) C dX9_plan_7 v_X9_471 (c_X9_isCake hX ) (by decide) (by decide) ⟨Nat.zero_le _, Nat.zero_le _⟩ (Nat.le_of_ble_eq_true rfl) (fun x7 l7 u7 hp7 => ?_)
  have hq7 := hp7
  try simp only [zuI_1, zuI_2, zuJ_1, zuJ_2, zuJ_3, zuP_1, zuP_2, zuP_3, zuC_1, zuC_2, reduceIte, Nat.reduceEqDiff, false_and, and_false, true_and, and_true, and_self, or_true, true_or, or_false, false_or] at hq7
  refine zs_if_eq (tgt := 31) (pc := 10) C dX9_plan_10 (by decide) (fun h10 => ?_) (fun h10 => ?_)
  · skip
    refine zs_iconst (pc := 31) C dX9_plan_31 (by decide) ?_
    exact zs_iret (pc := 32) C hr hlk dX9_plan_32 ⟨by repeat (first | exact zsm_rf | assumption | refine zsm_C (by decide) ?_ | refine zsm_I (by decide) ?_ | refine zsm_J ?_ | refine zsm_c (by assumption) (by decide) ?_), (by with_reducible repeat (first | exact RO_rf | assumption | refine RO_0 (by decide) ?_ | refine RO_n 20 (by decide) (by omega) ?_ | refine RO_n 5 (by decide) (by omega) ?_ | refine RO_n 60 (by decide) (by omega) ?_ | refine RO_n 1 (by decide) (by omega) ?_ | refine RO_J (by decide) ?_ | refine RO_c (by assumption) ?_)), trivial⟩
  · skip
    refine zs_aload_n (pc := 13) C dX9_plan_13 rfl ?_
    refine zs_getf (pc := 14) C dX9_plan_14 w_X9_103 f_10_56 (by decide) ?_
    refine zs_iload_n (pc := 17) C dX9_plan_17 rfl ?_
    refine zs_iald (r := 2086) (pc := 18) C dX9_plan_18 a_86 (by decide) (by omega) rfl (r_2086 _) (fun v18 e18 l18 u18 => ?_)
    try simp only [zuI_1, zuI_2, zuJ_1, zuJ_2, zuJ_3, zuP_1, zuP_2, zuP_3, zuC_1, zuC_2, reduceIte, Nat.reduceEqDiff, false_and, and_false, true_and, and_true, and_self, or_true, true_or, or_false, false_or] at e18
    refine zs_if_ge (tgt := 31) (pc := 19) C dX9_plan_19 (by decide) (fun h19 => ?_) (fun h19 => ?_)
    · skip
      refine zs_iconst (pc := 31) C dX9_plan_31 (by decide) ?_
      exact zs_iret (pc := 32) C hr hlk dX9_plan_32 ⟨by repeat (first | exact zsm_rf | assumption | refine zsm_C (by decide) ?_ | refine zsm_I (by decide) ?_ | refine zsm_J ?_ | refine zsm_c (by assumption) (by decide) ?_), (by with_reducible repeat (first | exact RO_rf | assumption | refine RO_0 (by decide) ?_ | refine RO_n 20 (by decide) (by omega) ?_ | refine RO_n 5 (by decide) (by omega) ?_ | refine RO_n 60 (by decide) (by omega) ?_ | refine RO_n 1 (by decide) (by omega) ?_ | refine RO_J (by decide) ?_ | refine RO_c (by assumption) ?_)), trivial⟩
    · skip
      refine zs_iload_n (pc := 22) C dX9_plan_22 rfl ?_
      refine zs_iconst (pc := 23) C dX9_plan_23 (by decide) ?_
      refine zs_iconst (pc := 24) C dX9_plan_24 (by decide) ?_
      refine zSip3 (pc := 25) C dX9_plan_25 s_X9_223 (c_X9_isIn hX ) (by decide) ⟨Nat.zero_le _, Nat.zero_le _⟩ (Nat.le_of_ble_eq_true rfl) (fun x25 l25 u25 hp25 => ?_)
      have hq25 := hp25
      try simp only [zuI_1, zuI_2, zuJ_1, zuJ_2, zuJ_3, zuP_1, zuP_2, zuP_3, zuC_1, zuC_2, reduceIte, Nat.reduceEqDiff, false_and, and_false, true_and, and_true, and_self, or_true, true_or, or_false, false_or] at hq25
      refine zs_if_ne (tgt := 33) (pc := 28) C dX9_plan_28 (by decide) (fun h28 => ?_) (fun h28 => ?_)
      · skip
        refine zs_aload_n (pc := 33) C dX9_plan_33 rfl ?_
        refine zs_iload_n (pc := 34) C dX9_plan_34 rfl ?_
        refine zVv1 (pc := 35) C dX9_plan_35 v_X9_513 (c_X9_layPlanO hX (by repeat (first | assumption | refine MI_I (by decide) ?_ | refine MI_J ?_ | refine MI_sm (by assumption) (by decide) ?_ | refine MI_sn (by assumption) (by decide) ?_)) (by first | omega | (simp only [zuI_1, zuI_2, zuJ_1, zuJ_2, zuJ_3, zuP_1, zuP_2, zuP_3, zuC_1, zuC_2, reduceIte, Nat.reduceEqDiff, false_and, and_false, true_and, and_true, and_self, or_true, true_or, or_false, false_or]; omega))) (by decide) (by decide) ⟨Nat.zero_le _, Nat.zero_le _⟩ (Nat.le_of_ble_eq_true rfl) (fun G35 hp35 => ?_)
        obtain ⟨hz35, lo35, hq35⟩ := hp35
        try simp only [zuI_1, zuI_2, zuJ_1, zuJ_2, zuJ_3, zuP_1, zuP_2, zuP_3, zuC_1, zuC_2, reduceIte, Nat.reduceEqDiff, false_and, and_false, true_and, and_true, and_self, or_true, true_or, or_false, false_or] at hq35
        refine zs_aload_n (pc := 38) C dX9_plan_38 rfl ?_
        refine zs_geti (r := 1078) (pc := 39) C dX9_plan_39 w_X9_501 f_10_78 rfl (r_1078 0) (fun v39 e39 l39 u39 => ?_)
        refine zs_if_ge (tgt := 50) (pc := 42) C dX9_plan_42 (by decide) (fun h42 => ?_) (fun h42 => ?_)
        · skip
          refine zs_iload_n (pc := 50) C dX9_plan_50 rfl ?_
          refine zs_if_ne (tgt := 61) (pc := 51) C dX9_plan_51 (by decide) (fun h51 => ?_) (fun h51 => ?_)
          · skip
            refine zs_aload_n (pc := 61) C dX9_plan_61 rfl ?_
            refine zs_geti (r := 1079) (pc := 62) C dX9_plan_62 w_X9_507 f_10_79 rfl (r_1079 0) (fun v62 e62 l62 u62 => ?_)
            exact zs_iret (pc := 65) C hr hlk dX9_plan_65 ⟨by repeat (first | exact zsm_rf | assumption | refine zsm_C (by decide) ?_ | refine zsm_I (by decide) ?_ | refine zsm_J ?_ | refine zsm_c (by assumption) (by decide) ?_), (by with_reducible repeat (first | exact RO_rf | assumption | refine RO_0 (by decide) ?_ | refine RO_n 20 (by decide) (by omega) ?_ | refine RO_n 5 (by decide) (by omega) ?_ | refine RO_n 60 (by decide) (by omega) ?_ | refine RO_n 1 (by decide) (by omega) ?_ | refine RO_J (by decide) ?_ | refine RO_c (by assumption) ?_)), trivial⟩
          · skip
            refine zs_aload_n (pc := 54) C dX9_plan_54 rfl ?_
            refine zs_geti (r := 1078) (pc := 55) C dX9_plan_55 w_X9_501 f_10_78 rfl (r_1078 0) (fun v55 e55 l55 u55 => ?_)
            refine zs_goto (tgt := 65) (pc := 58) C dX9_plan_58 (by decide) ?_
            exact zs_iret (pc := 65) C hr hlk dX9_plan_65 ⟨by repeat (first | exact zsm_rf | assumption | refine zsm_C (by decide) ?_ | refine zsm_I (by decide) ?_ | refine zsm_J ?_ | refine zsm_c (by assumption) (by decide) ?_), (by with_reducible repeat (first | exact RO_rf | assumption | refine RO_0 (by decide) ?_ | refine RO_n 20 (by decide) (by omega) ?_ | refine RO_n 5 (by decide) (by omega) ?_ | refine RO_n 60 (by decide) (by omega) ?_ | refine RO_n 1 (by decide) (by omega) ?_ | refine RO_J (by decide) ?_ | refine RO_c (by assumption) ?_)), trivial⟩
        · skip
          refine zs_bipush (pc := 45) C dX9_plan_45 (by decide) (by decide) ?_
          refine zs_goto (tgt := 65) (pc := 47) C dX9_plan_47 (by decide) ?_
          exact zs_iret (pc := 65) C hr hlk dX9_plan_65 ⟨by repeat (first | exact zsm_rf | assumption | refine zsm_C (by decide) ?_ | refine zsm_I (by decide) ?_ | refine zsm_J ?_ | refine zsm_c (by assumption) (by decide) ?_), (by with_reducible repeat (first | exact RO_rf | assumption | refine RO_0 (by decide) ?_ | refine RO_n 20 (by decide) (by omega) ?_ | refine RO_n 5 (by decide) (by omega) ?_ | refine RO_n 60 (by decide) (by omega) ?_ | refine RO_n 1 (by decide) (by omega) ?_ | refine RO_J (by decide) ?_ | refine RO_c (by assumption) ?_)), trivial⟩
      · skip
        refine zs_iconst (pc := 31) C dX9_plan_31 (by decide) ?_
        exact zs_iret (pc := 32) C hr hlk dX9_plan_32 ⟨by repeat (first | exact zsm_rf | assumption | refine zsm_C (by decide) ?_ | refine zsm_I (by decide) ?_ | refine zsm_J ?_ | refine zsm_c (by assumption) (by decide) ?_), (by with_reducible repeat (first | exact RO_rf | assumption | refine RO_0 (by decide) ?_ | refine RO_n 20 (by decide) (by omega) ?_ | refine RO_n 5 (by decide) (by omega) ?_ | refine RO_n 60 (by decide) (by omega) ?_ | refine RO_n 1 (by decide) (by omega) ?_ | refine RO_J (by decide) ?_ | refine RO_c (by assumption) ?_)), trivial⟩

set_option maxHeartbeats 4000000 in
set_option maxRecDepth 100000 in
theorem c_X9_plannedO {l : Launch} {Γ : zΓ} {G : zH} {w : Nat} {a b q : Int} (hX : zXs Γ) (hM : MI Γ w G) : zMet l Γ yX9_planned cX9_planned 4 (some .int) 8 [zr 10 w, zi a, zi b, zi q] G (zpi (fun x G' => zsm [2091, 2092, 2093, 2094, 2095, 2088, 2087, 2082, 2084, 2083, 2089, 1050, 2081, 2085, 2086, 2090, 1072, 1073, 1074, 2101, 2102, 1078, 1079, 1002] G G' ∧ RO G G' ∧ True)) := by
  refine zMet_of RX9 hX (by decide) rfl (Nat.le_of_ble_eq_true rfl) ?_
  intro p e s m args below meth c C hr hlk
  show Z p l e (zrm 8) s m args below meth c Γ 4 0 0 (MQ below (zQc Γ (zpi (fun x G' => zsm [2091, 2092, 2093, 2094, 2095, 2088, 2087, 2082, 2084, 2083, 2089, 1050, 2081, 2085, 2086, 2090, 1072, 1073, 1074, 2101, 2102, 1078, 1079, 1002] G G' ∧ RO G G' ∧ True))) args s 0 0 (zA Γ)) 0 [some (zr 10 w), some (zi a), some (zi b), some (zi q)] [] G
  refine zs_loc 1 rfl (fun ha1 hb1 => ?_)
  refine zs_loc 2 rfl (fun ha2 hb2 => ?_)
  refine zs_loc 3 rfl (fun ha3 hb3 => ?_)
  refine zs_aload_n (pc := 0) C dX9_planned_0 rfl ?_
  refine zs_iconst (pc := 1) C dX9_planned_1 (by decide) ?_
  refine zs_puti (r := 1002) (pc := 2) C dX9_planned_2 w_X9_178 f_10_2 rfl (r_1002 0) (by omega) ?_
  refine zs_aload_n (pc := 5) C dX9_planned_5 rfl ?_
  refine zs_iload_n (pc := 6) C dX9_planned_6 rfl ?_
  refine zVip1 (pc := 7) C dX9_planned_7 v_X9_471 (c_X9_isCake hX ) (by decide) (by decide) ⟨Nat.zero_le _, Nat.zero_le _⟩ (Nat.le_of_ble_eq_true rfl) (fun x7 l7 u7 hp7 => ?_)
  have hq7 := hp7
  try simp only [zuI_1, zuI_2, zuJ_1, zuJ_2, zuJ_3, zuP_1, zuP_2, zuP_3, zuC_1, zuC_2, reduceIte, Nat.reduceEqDiff, false_and, and_false, true_and, and_true, and_self, or_true, true_or, or_false, false_or] at hq7
  refine zs_if_eq (tgt := 35) (pc := 10) C dX9_planned_10 (by decide) (fun h10 => ?_) (fun h10 => ?_)
  · skip
    refine zs_iconst (pc := 35) C dX9_planned_35 (by decide) ?_
    exact zs_iret (pc := 36) C hr hlk dX9_planned_36 ⟨by repeat (first | exact zsm_rf | assumption | refine zsm_C (by decide) ?_ | refine zsm_I (by decide) ?_ | refine zsm_J ?_ | refine zsm_c (by assumption) (by decide) ?_), (by with_reducible repeat (first | exact RO_rf | assumption | refine RO_0 (by decide) ?_ | refine RO_n 20 (by decide) (by omega) ?_ | refine RO_n 5 (by decide) (by omega) ?_ | refine RO_n 60 (by decide) (by omega) ?_ | refine RO_n 1 (by decide) (by omega) ?_ | refine RO_J (by decide) ?_ | refine RO_c (by assumption) ?_)), trivial⟩
  · skip
    refine zs_aload_n (pc := 13) C dX9_planned_13 rfl ?_
    refine zs_getf (pc := 14) C dX9_planned_14 w_X9_103 f_10_56 (by decide) ?_
    refine zs_iload_n (pc := 17) C dX9_planned_17 rfl ?_
    refine zs_iald (r := 2086) (pc := 18) C dX9_planned_18 a_86 (by decide) (by omega) rfl (r_2086 _) (fun v18 e18 l18 u18 => ?_)
    try simp only [zuI_1, zuI_2, zuJ_1, zuJ_2, zuJ_3, zuP_1, zuP_2, zuP_3, zuC_1, zuC_2, reduceIte, Nat.reduceEqDiff, false_and, and_false, true_and, and_true, and_self, or_true, true_or, or_false, false_or] at e18
    refine zs_if_ge (tgt := 35) (pc := 19) C dX9_planned_19 (by decide) (fun h19 => ?_) (fun h19 => ?_)
    · skip
      refine zs_iconst (pc := 35) C dX9_planned_35 (by decide) ?_
      exact zs_iret (pc := 36) C hr hlk dX9_planned_36 ⟨by repeat (first | exact zsm_rf | assumption | refine zsm_C (by decide) ?_ | refine zsm_I (by decide) ?_ | refine zsm_J ?_ | refine zsm_c (by assumption) (by decide) ?_), (by with_reducible repeat (first | exact RO_rf | assumption | refine RO_0 (by decide) ?_ | refine RO_n 20 (by decide) (by omega) ?_ | refine RO_n 5 (by decide) (by omega) ?_ | refine RO_n 60 (by decide) (by omega) ?_ | refine RO_n 1 (by decide) (by omega) ?_ | refine RO_J (by decide) ?_ | refine RO_c (by assumption) ?_)), trivial⟩
    · skip
      refine zs_iload_n (pc := 22) C dX9_planned_22 rfl ?_
      refine zs_if_lt (tgt := 35) (pc := 23) C dX9_planned_23 (by decide) (fun h23 => ?_) (fun h23 => ?_)
      · skip
        refine zs_iconst (pc := 35) C dX9_planned_35 (by decide) ?_
        exact zs_iret (pc := 36) C hr hlk dX9_planned_36 ⟨by repeat (first | exact zsm_rf | assumption | refine zsm_C (by decide) ?_ | refine zsm_I (by decide) ?_ | refine zsm_J ?_ | refine zsm_c (by assumption) (by decide) ?_), (by with_reducible repeat (first | exact RO_rf | assumption | refine RO_0 (by decide) ?_ | refine RO_n 20 (by decide) (by omega) ?_ | refine RO_n 5 (by decide) (by omega) ?_ | refine RO_n 60 (by decide) (by omega) ?_ | refine RO_n 1 (by decide) (by omega) ?_ | refine RO_J (by decide) ?_ | refine RO_c (by assumption) ?_)), trivial⟩
      · skip
        refine zs_iload_n (pc := 26) C dX9_planned_26 rfl ?_
        refine zs_iconst (pc := 27) C dX9_planned_27 (by decide) ?_
        refine zs_iconst (pc := 28) C dX9_planned_28 (by decide) ?_
        refine zSip3 (pc := 29) C dX9_planned_29 s_X9_223 (c_X9_isIn hX ) (by decide) ⟨Nat.zero_le _, Nat.zero_le _⟩ (Nat.le_of_ble_eq_true rfl) (fun x29 l29 u29 hp29 => ?_)
        have hq29 := hp29
        try simp only [zuI_1, zuI_2, zuJ_1, zuJ_2, zuJ_3, zuP_1, zuP_2, zuP_3, zuC_1, zuC_2, reduceIte, Nat.reduceEqDiff, false_and, and_false, true_and, and_true, and_self, or_true, true_or, or_false, false_or] at hq29
        refine zs_if_ne (tgt := 37) (pc := 32) C dX9_planned_32 (by decide) (fun h32 => ?_) (fun h32 => ?_)
        · skip
          refine zs_aload_n (pc := 37) C dX9_planned_37 rfl ?_
          refine zs_iload_n (pc := 38) C dX9_planned_38 rfl ?_
          refine zVv1 (pc := 39) C dX9_planned_39 v_X9_513 (c_X9_layPlanO hX (by repeat (first | assumption | refine MI_I (by decide) ?_ | refine MI_J ?_ | refine MI_sm (by assumption) (by decide) ?_ | refine MI_sn (by assumption) (by decide) ?_)) (by first | omega | (simp only [zuI_1, zuI_2, zuJ_1, zuJ_2, zuJ_3, zuP_1, zuP_2, zuP_3, zuC_1, zuC_2, reduceIte, Nat.reduceEqDiff, false_and, and_false, true_and, and_true, and_self, or_true, true_or, or_false, false_or]; omega))) (by decide) (by decide) ⟨Nat.zero_le _, Nat.zero_le _⟩ (Nat.le_of_ble_eq_true rfl) (fun G39 hp39 => ?_)
          obtain ⟨hz39, lo39, hq39⟩ := hp39
          try simp only [zuI_1, zuI_2, zuJ_1, zuJ_2, zuJ_3, zuP_1, zuP_2, zuP_3, zuC_1, zuC_2, reduceIte, Nat.reduceEqDiff, false_and, and_false, true_and, and_true, and_self, or_true, true_or, or_false, false_or] at hq39
          refine zs_aload_n (pc := 42) C dX9_planned_42 rfl ?_
          refine zs_geti (r := 1078) (pc := 43) C dX9_planned_43 w_X9_501 f_10_78 rfl (r_1078 0) (fun v43 e43 l43 u43 => ?_)
          refine zs_if_lt (tgt := 57) (pc := 46) C dX9_planned_46 (by decide) (fun h46 => ?_) (fun h46 => ?_)
          · skip
            refine zs_bipush (pc := 57) C dX9_planned_57 (by decide) (by decide) ?_
            exact zs_iret (pc := 59) C hr hlk dX9_planned_59 ⟨by repeat (first | exact zsm_rf | assumption | refine zsm_C (by decide) ?_ | refine zsm_I (by decide) ?_ | refine zsm_J ?_ | refine zsm_c (by assumption) (by decide) ?_), (by with_reducible repeat (first | exact RO_rf | assumption | refine RO_0 (by decide) ?_ | refine RO_n 20 (by decide) (by omega) ?_ | refine RO_n 5 (by decide) (by omega) ?_ | refine RO_n 60 (by decide) (by omega) ?_ | refine RO_n 1 (by decide) (by omega) ?_ | refine RO_J (by decide) ?_ | refine RO_c (by assumption) ?_)), trivial⟩
          · skip
            refine zs_iload_n (pc := 49) C dX9_planned_49 rfl ?_
            refine zs_aload_n (pc := 50) C dX9_planned_50 rfl ?_
            refine zs_geti (r := 1079) (pc := 51) C dX9_planned_51 w_X9_507 f_10_79 rfl (r_1079 0) (fun v51 e51 l51 u51 => ?_)
            refine zs_icmp_lt (tgt := 60) (pc := 54) C dX9_planned_54 (by decide) (fun h54 => ?_) (fun h54 => ?_)
            · skip
              refine zs_iload_n (pc := 60) C dX9_planned_60 rfl ?_
              refine zs_if_ne (tgt := 75) (pc := 61) C dX9_planned_61 (by decide) (fun h61 => ?_) (fun h61 => ?_)
              · skip
                refine zs_aload_n (pc := 75) C dX9_planned_75 rfl ?_
                refine zs_getf (pc := 76) C dX9_planned_76 w_X9_154 f_10_77 (by decide) ?_
                refine zs_iload_n (pc := 79) C dX9_planned_79 rfl ?_
                refine zs_iald (r := 2102) (pc := 80) C dX9_planned_80 a_102 (by decide) (by omega) rfl (r_2102 _) (fun v80 e80 l80 u80 => ?_)
                refine zs_iconst (pc := 81) C dX9_planned_81 (by decide) ?_
                first | refine zs_irem (pc := 82) C dX9_planned_82 (by omega) (by omega) (fun hz821 hz822 => ?_) | refine zs_iremF (pc := 82) C dX9_planned_82 (by omega) (fun z82 hz821 hz822 => ?_)
                exact zs_iret (pc := 83) C hr hlk dX9_planned_83 ⟨by repeat (first | exact zsm_rf | assumption | refine zsm_C (by decide) ?_ | refine zsm_I (by decide) ?_ | refine zsm_J ?_ | refine zsm_c (by assumption) (by decide) ?_), (by with_reducible repeat (first | exact RO_rf | assumption | refine RO_0 (by decide) ?_ | refine RO_n 20 (by decide) (by omega) ?_ | refine RO_n 5 (by decide) (by omega) ?_ | refine RO_n 60 (by decide) (by omega) ?_ | refine RO_n 1 (by decide) (by omega) ?_ | refine RO_J (by decide) ?_ | refine RO_c (by assumption) ?_)), trivial⟩
              · skip
                refine zs_aload_n (pc := 64) C dX9_planned_64 rfl ?_
                refine zs_getf (pc := 65) C dX9_planned_65 w_X9_154 f_10_77 (by decide) ?_
                refine zs_iload_n (pc := 68) C dX9_planned_68 rfl ?_
                refine zs_iald (r := 2102) (pc := 69) C dX9_planned_69 a_102 (by decide) (by omega) rfl (r_2102 _) (fun v69 e69 l69 u69 => ?_)
                refine zs_iconst (pc := 70) C dX9_planned_70 (by decide) ?_
                first | refine zs_idiv (pc := 71) C dX9_planned_71 (by omega) (by omega) (fun hz711 hz712 => ?_) | refine zs_idivF (pc := 71) C dX9_planned_71 (by omega) (fun z71 hz711 hz712 => ?_)
                refine zs_goto (tgt := 83) (pc := 72) C dX9_planned_72 (by decide) ?_
                exact zs_iret (pc := 83) C hr hlk dX9_planned_83 ⟨by repeat (first | exact zsm_rf | assumption | refine zsm_C (by decide) ?_ | refine zsm_I (by decide) ?_ | refine zsm_J ?_ | refine zsm_c (by assumption) (by decide) ?_), (by with_reducible repeat (first | exact RO_rf | assumption | refine RO_0 (by decide) ?_ | refine RO_n 20 (by decide) (by omega) ?_ | refine RO_n 5 (by decide) (by omega) ?_ | refine RO_n 60 (by decide) (by omega) ?_ | refine RO_n 1 (by decide) (by omega) ?_ | refine RO_J (by decide) ?_ | refine RO_c (by assumption) ?_)), trivial⟩
            · skip
              refine zs_bipush (pc := 57) C dX9_planned_57 (by decide) (by decide) ?_
              exact zs_iret (pc := 59) C hr hlk dX9_planned_59 ⟨by repeat (first | exact zsm_rf | assumption | refine zsm_C (by decide) ?_ | refine zsm_I (by decide) ?_ | refine zsm_J ?_ | refine zsm_c (by assumption) (by decide) ?_), (by with_reducible repeat (first | exact RO_rf | assumption | refine RO_0 (by decide) ?_ | refine RO_n 20 (by decide) (by omega) ?_ | refine RO_n 5 (by decide) (by omega) ?_ | refine RO_n 60 (by decide) (by omega) ?_ | refine RO_n 1 (by decide) (by omega) ?_ | refine RO_J (by decide) ?_ | refine RO_c (by assumption) ?_)), trivial⟩
        · skip
          refine zs_iconst (pc := 35) C dX9_planned_35 (by decide) ?_
          exact zs_iret (pc := 36) C hr hlk dX9_planned_36 ⟨by repeat (first | exact zsm_rf | assumption | refine zsm_C (by decide) ?_ | refine zsm_I (by decide) ?_ | refine zsm_J ?_ | refine zsm_c (by assumption) (by decide) ?_), (by with_reducible repeat (first | exact RO_rf | assumption | refine RO_0 (by decide) ?_ | refine RO_n 20 (by decide) (by omega) ?_ | refine RO_n 5 (by decide) (by omega) ?_ | refine RO_n 60 (by decide) (by omega) ?_ | refine RO_n 1 (by decide) (by omega) ?_ | refine RO_J (by decide) ?_ | refine RO_c (by assumption) ?_)), trivial⟩
