set_option maxHeartbeats 4000000 in
set_option maxRecDepth 100000 in
theorem c_X8_lookR {l : Launch} {Γ : zΓ} {G : zH} {w : Nat} {a b : Int} (hX : zXs Γ) (hst : l.stackTraces = false) : zMx l Γ yX8_look cX8_look 3 (some .int) 8 [zr 9 w, zi a, zi b] G (zpi (fun x G' => zsm [] G G' ∧ True)) := by
  refine zMx_of RX8 hX (by decide) rfl (Nat.le_of_ble_eq_true rfl) ?_
  intro p e s m args below meth c C hr hlk hTw hex
  show Z p l e (zrC 8 1 6) s m args below meth c Γ 3 0 0 (vx_MQ below (zQc Γ (zpi (fun x G' => zsm [] G G' ∧ True))) (zXC Γ G) args s 1 6 (zA Γ)) 0 [some (zr 9 w), some (zi a), some (zi b)] [] G
  refine zs_loc 1 rfl (fun ha1 hb1 => ?_)
  refine zs_loc 2 rfl (fun ha2 hb2 => ?_)
  refine zs_aload_n (pc := 0) C dX8_look_0 rfl ?_
  refine zs_getd (r := 903) (pc := 1) C dX8_look_1 w_X8_25 f_9_3 (by decide) rfl (fun v1 e1 t1 => ?_)
  refine zs_iconst (pc := 4) C dX8_look_4 (by decide) ?_
  refine zs_iload_n (pc := 5) C dX8_look_5 rfl ?_
  refine zVip2 (pc := 6) C dX8_look_6 v_X8_104 (c_X5_has hX (by omega)) (by decide) (by decide) ⟨Nat.zero_le _, Nat.zero_le _⟩ (Nat.le_of_ble_eq_true rfl) (fun x6 l6 u6 hp6 => ?_)
  have hq6 := hp6
  refine zs_if_ne (tgt := 22) (pc := 9) C dX8_look_9 (by decide) (fun h9 => ?_) (fun h9 => ?_)
  · skip
    refine zs_iload_n (pc := 22) C dX8_look_22 rfl ?_
    refine zs_name (fun y23 ey23 => ?_)
    rcases (show y23 = 0 ∨ y23 = 1 ∨ y23 = 2 ∨ y23 = 3 ∨ y23 = 4 ∨ (y23 < 0 ∨ 4 < y23) by omega) with h23 | h23 | h23 | h23 | h23 | h23
    · skip
      refine zs_tabIn (pc := 23) (tgt := 56) C 0 dX8_look_23 h23 (by decide) rfl (by decide) ?_
      refine zs_aload_n (pc := 56) C dX8_look_56 rfl ?_
      refine zs_getd (r := 903) (pc := 57) C dX8_look_57 w_X8_25 f_9_3 (by decide) rfl (fun v57 e57 t57 => ?_)
      refine zs_getf (pc := 60) C dX8_look_60 w_X8_115 f_6_4 (by decide) ?_
      refine zs_iload_n (pc := 63) C dX8_look_63 rfl ?_
      refine zs_iald (r := 2039) (pc := 64) C dX8_look_64 a_39 (by decide) (by omega) rfl (r_2039 _) (fun v64 e64 l64 u64 => ?_)
      exact zs_iretX (pc := 65) C hr hlk dX8_look_65 ⟨by repeat (first | exact zsm_rf | assumption | refine zsm_C (by decide) ?_ | refine zsm_I (by decide) ?_ | refine zsm_J ?_ | refine zsm_c (by assumption) (by decide) ?_), trivial⟩
    · skip
      refine zs_tabIn (pc := 23) (tgt := 66) C 1 dX8_look_23 h23 (by decide) rfl (by decide) ?_
      refine zs_aload_n (pc := 66) C dX8_look_66 rfl ?_
      refine zs_getf (pc := 67) C dX8_look_67 w_X8_34 f_9_4 (by decide) ?_
      refine zs_getf (pc := 70) C dX8_look_70 w_X8_118 f_8_4 (by decide) ?_
      refine zs_iload_n (pc := 73) C dX8_look_73 rfl ?_
      refine zs_iald (r := 2050) (pc := 74) C dX8_look_74 a_50 (by decide) (by omega) rfl (r_2050 _) (fun v74 e74 l74 u74 => ?_)
      exact zs_iretX (pc := 75) C hr hlk dX8_look_75 ⟨by repeat (first | exact zsm_rf | assumption | refine zsm_C (by decide) ?_ | refine zsm_I (by decide) ?_ | refine zsm_J ?_ | refine zsm_c (by assumption) (by decide) ?_), trivial⟩
    · skip
      refine zs_tabIn (pc := 23) (tgt := 76) C 2 dX8_look_23 h23 (by decide) rfl (by decide) ?_
      refine zs_aload_n (pc := 76) C dX8_look_76 rfl ?_
      refine zs_getf (pc := 77) C dX8_look_77 w_X8_34 f_9_4 (by decide) ?_
      refine zs_getf (pc := 80) C dX8_look_80 w_X8_121 f_8_5 (by decide) ?_
      refine zs_iload_n (pc := 83) C dX8_look_83 rfl ?_
      refine zs_iald (r := 2051) (pc := 84) C dX8_look_84 a_51 (by decide) (by omega) rfl (r_2051 _) (fun v84 e84 l84 u84 => ?_)
      exact zs_iretX (pc := 85) C hr hlk dX8_look_85 ⟨by repeat (first | exact zsm_rf | assumption | refine zsm_C (by decide) ?_ | refine zsm_I (by decide) ?_ | refine zsm_J ?_ | refine zsm_c (by assumption) (by decide) ?_), trivial⟩
    · skip
      refine zs_tabIn (pc := 23) (tgt := 86) C 3 dX8_look_23 h23 (by decide) rfl (by decide) ?_
      refine zs_aload_n (pc := 86) C dX8_look_86 rfl ?_
      refine zs_getf (pc := 87) C dX8_look_87 w_X8_34 f_9_4 (by decide) ?_
      refine zs_iload_n (pc := 90) C dX8_look_90 rfl ?_
      refine zVip1 (pc := 91) C dX8_look_91 v_X8_124 (c_X7_prideOf hX (by omega)) (by decide) (by decide) ⟨Nat.zero_le _, Nat.zero_le _⟩ (Nat.le_of_ble_eq_true rfl) (fun x91 l91 u91 hp91 => ?_)
      have hq91 := hp91
      exact zs_iretX (pc := 94) C hr hlk dX8_look_94 ⟨by repeat (first | exact zsm_rf | assumption | refine zsm_C (by decide) ?_ | refine zsm_I (by decide) ?_ | refine zsm_J ?_ | refine zsm_c (by assumption) (by decide) ?_), trivial⟩
    · skip
      refine zs_tabIn (pc := 23) (tgt := 95) C 4 dX8_look_23 h23 (by decide) rfl (by decide) ?_
      refine zs_aload_n (pc := 95) C dX8_look_95 rfl ?_
      refine zs_getf (pc := 96) C dX8_look_96 w_X8_34 f_9_4 (by decide) ?_
      refine zs_getf (pc := 99) C dX8_look_99 w_X8_128 f_8_6 (by decide) ?_
      refine zs_iload_n (pc := 102) C dX8_look_102 rfl ?_
      refine zs_iald (r := 2052) (pc := 103) C dX8_look_103 a_52 (by decide) (by omega) rfl (r_2052 _) (fun v103 e103 l103 u103 => ?_)
      exact zs_iretX (pc := 104) C hr hlk dX8_look_104 ⟨by repeat (first | exact zsm_rf | assumption | refine zsm_C (by decide) ?_ | refine zsm_I (by decide) ?_ | refine zsm_J ?_ | refine zsm_c (by assumption) (by decide) ?_), trivial⟩
    · skip
      refine zs_tabOut (tgt := 105) (pc := 23) C dX8_look_23 h23 (by decide) ?_
      exact zs_throw2 (pc := 105) C hst hTw hex hlk dX8_look_105 dX8_look_108 dX8_look_109 dX8_look_111 dX8_look_114 (show 6 ≤ 8 ∧ 100 ≤ 40 * 8 ∧ 1 ≤ 1 ∧ 6 ≤ 6 by decide)
  · skip
    exact zs_throw1 (pc := 12) C hst hTw hex hlk dX8_look_12 dX8_look_15 dX8_look_16 dX8_look_18 dX8_look_21 (show 6 ≤ 8 ∧ 100 ≤ 40 * 8 ∧ 1 ≤ 1 ∧ 6 ≤ 6 by decide)
