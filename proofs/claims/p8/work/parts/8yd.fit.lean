set_option maxHeartbeats 4000000 in
set_option maxRecDepth 100000 in
theorem c_X9_isOfW {l : Launch} {Γ : zΓ} {G : zH} {a b : Int} (hX : zXs Γ) (hb : 0 ≤ b ∧ b ≤ 31) : zMet l Γ yX9_isOf cX9_isOf 2 (some .boolean) 0 [zi a, zi b] G (zpi (fun x G' => G' = G ∧ ((x = 0 ∨ x = 1) ∧ (x = 1 ↔ band (bshr a b) 1 = 1)))) := by
  refine zMet_of RX9 hX (by decide) rfl (Nat.le_of_ble_eq_true rfl) ?_
  intro p e s m args below meth c C hr hlk
  show Z p l e (zrm 0) s m args below meth c Γ 2 0 0 (MQ below (zQc Γ (zpi (fun x G' => G' = G ∧ ((x = 0 ∨ x = 1) ∧ (x = 1 ↔ band (bshr a b) 1 = 1))))) args s 0 0 (zA Γ)) 0 [some (zi a), some (zi b)] [] G
  refine zs_loc 0 rfl (fun ha0 hb0 => ?_)
  refine zs_loc 1 rfl (fun ha1 hb1 => ?_)
  refine zs_iload_n (pc := 0) C dX9_isOf_0 rfl ?_
  refine zs_iload_n (pc := 1) C dX9_isOf_1 rfl ?_
  refine zs_ishrX (pc := 2) C dX9_isOf_2 (fun z2 ez2 hz21 hz22 => ?_)
  refine zs_iconst (pc := 3) C dX9_isOf_3 (by decide) ?_
  refine zs_iandX (pc := 4) C dX9_isOf_4 (fun z4 ez4 hz41 hz42 => ?_)
  have hz : z4 = band (bshr a b) 1 := by rw [ez4, ez2]
  refine zs_iconst (pc := 5) C dX9_isOf_5 (by decide) ?_
  refine zs_icmp_ne (tgt := 13) (pc := 6) C dX9_isOf_6 (by decide) (fun h6 => ?_) (fun h6 => ?_)
  · skip
    refine zs_iconst (pc := 13) C dX9_isOf_13 (by decide) ?_
    exact zs_zret (pc := 14) C hr hlk dX9_isOf_14 (by omega) ⟨rfl, (by rw [← hz]; refine ⟨by omega, ?_⟩; constructor <;> intro hq <;> omega)⟩
  · skip
    refine zs_iconst (pc := 9) C dX9_isOf_9 (by decide) ?_
    refine zs_goto (tgt := 14) (pc := 10) C dX9_isOf_10 (by decide) ?_
    exact zs_zret (pc := 14) C hr hlk dX9_isOf_14 (by omega) ⟨rfl, (by rw [← hz]; refine ⟨by omega, ?_⟩; constructor <;> intro hq <;> omega)⟩

set_option maxHeartbeats 4000000 in
set_option maxRecDepth 100000 in
theorem c_X9_laySackW {l : Launch} {Γ : zΓ} {G : zH} {w : Nat} {k s : Int} {A W : aS}  (hX : zXs Γ) (hK : kR Γ w A G) (hW : WI A W) (hT : TA A) (hS : rS Γ w W G) (hk : 0 ≤ k ∧ k < W 0 0) (hs : 0 ≤ s ∧ s < A 4 0)  : zMet l Γ yX9_laySack cX9_laySack 3 none 1 [zr 10 w, zi k, zi s] G (zpv (fun G' => zsm [] G G' ∧ ((∀ j : Nat, j < 7 → (G'.2.1 2079 (Γ.2.1 w 48)) j = wNs A W k s j) ∧ zsj [2079] G G'))) := by
  refine zMet_of RX9 hX (by decide) rfl (Nat.le_of_ble_eq_true rfl) ?_
  intro p e sx9 m args below meth c C hr hlk
  show Z p l e (zrm 1) sx9 m args below meth c Γ 3 0 0 (MQ below (zQc Γ (zpv (fun G' => zsm [] G G' ∧ ((∀ j : Nat, j < 7 → (G'.2.1 2079 (Γ.2.1 w 48)) j = wNs A W k s j) ∧ zsj [2079] G G')))) args sx9 0 0 (zA Γ)) 0 [some (zr 10 w), some (zi k), some (zi s)] [] G
  refine zs_loc 1 rfl (fun ha1 hb1 => ?_)
  refine zs_loc 2 rfl (fun ha2 hb2 => ?_)
  have hT0 := hT.1
  have h00 := hW.1
  have hk2 := (hW.2.1 k.toNat (by omega)).1
  have hk10 := (hW.2.1 k.toNat (by omega)).2.2.2.2.2.2.2.2.2
  obtain ⟨s1, s2, s3, s4, s5, s6, s7, s8⟩ := hS.1 k.toNat (by omega)
  have kS := (hK.2.2.1 s.toNat (by omega)).2
  refine zs_aload_n (pc := 0) C dX9_laySack_0 rfl ?_
  refine zs_aload_n (pc := 1) C dX9_laySack_1 rfl ?_
  refine zs_getf (pc := 2) C dX9_laySack_2 w_X9_30 f_10_25 (by decide) ?_
  refine zs_iload_n (pc := 5) C dX9_laySack_5 rfl ?_
  refine zs_iald (r := 2062) (pc := 6) C dX9_laySack_6 a_62 (by decide) (by omega) rfl (r_2062 _) (fun v6 e6 l6 u6 => ?_)
  have y6 : v6 = A 6 s.toNat := e6.trans kS
  refine zs_aload_n (pc := 7) C dX9_laySack_7 rfl ?_
  refine zs_getf (pc := 8) C dX9_laySack_8 w_X9_133 f_10_67 (by decide) ?_
  refine zs_iload_n (pc := 11) C dX9_laySack_11 rfl ?_
  refine zs_iald (r := 2096) (pc := 12) C dX9_laySack_12 a_96 (by decide) (by omega) rfl (r_2096 _) (fun v12 e12 l12 u12 => ?_)
  have y12 : v12 = W 6 k.toNat := e12.trans s4
  refine zs_aload_n (pc := 13) C dX9_laySack_13 rfl ?_
  refine zs_getf (pc := 14) C dX9_laySack_14 w_X9_136 f_10_68 (by decide) ?_
  refine zs_iload_n (pc := 17) C dX9_laySack_17 rfl ?_
  refine zs_iald (r := 2097) (pc := 18) C dX9_laySack_18 a_97 (by decide) (by omega) rfl (r_2097 _) (fun v18 e18 l18 u18 => ?_)
  have y18 : v18 = W 7 k.toNat := e18.trans s5
  refine zs_aload_n (pc := 19) C dX9_laySack_19 rfl ?_
  refine zs_getf (pc := 20) C dX9_laySack_20 w_X9_139 f_10_69 (by decide) ?_
  refine zs_iload_n (pc := 23) C dX9_laySack_23 rfl ?_
  refine zs_iald (r := 2098) (pc := 24) C dX9_laySack_24 a_98 (by decide) (by omega) rfl (r_2098 _) (fun v24 e24 l24 u24 => ?_)
  have y24 : v24 = W 8 k.toNat := e24.trans s6
  refine zs_aload_n (pc := 25) C dX9_laySack_25 rfl ?_
  refine zs_getf (pc := 26) C dX9_laySack_26 w_X9_145 f_10_71 (by decide) ?_
  refine zs_iload_n (pc := 29) C dX9_laySack_29 rfl ?_
  refine zs_iald (r := 2100) (pc := 30) C dX9_laySack_30 a_100 (by decide) (by omega) rfl (r_2100 _) (fun v30 e30 l30 u30 => ?_)
  have y30 : v30 = W 10 k.toNat := e30.trans s8
  refine zs_iload_n (pc := 31) C dX9_laySack_31 rfl ?_
  refine zSip2 (pc := 32) C dX9_laySack_32 s_X9_516 (c_X9_isOfW hX (by omega)) (by decide) ⟨Nat.zero_le _, Nat.zero_le _⟩ (Nat.le_of_ble_eq_true rfl) (fun x32 l32 u32 hp32 => ?_)
  have hq32 := hp32
  have hb1 := b1_i (v := W 10 k.toNat) (s := s) hk10 (by omega)
  rw [y30] at hq32
  refine zs_if_eq (tgt := 42) (pc := 35) C dX9_laySack_35 (by decide) (fun h35 => ?_) (fun h35 => ?_)
  · skip
    refine zs_iconst (pc := 42) C dX9_laySack_42 (by decide) ?_
    refine zs_aload_n (pc := 43) C dX9_laySack_43 rfl ?_
    refine zs_getf (pc := 44) C dX9_laySack_44 w_X9_36 f_10_27 (by decide) ?_
    refine zs_aload_n (pc := 47) C dX9_laySack_47 rfl ?_
    refine zs_getf (pc := 48) C dX9_laySack_48 w_X9_118 f_10_62 (by decide) ?_
    refine zs_iload_n (pc := 51) C dX9_laySack_51 rfl ?_
    refine zs_iald (r := 2091) (pc := 52) C dX9_laySack_52 a_91 (by decide) (by omega) rfl (r_2091 _) (fun v52 e52 l52 u52 => ?_)
    have y52 : v52 = W 1 k.toNat := e52.trans s1
    subst y52
    refine zs_iald (r := 2064) (pc := 53) C dX9_laySack_53 a_64 (by decide) (by omega) rfl (r_2064 _) (fun v53 e53 l53 u53 => ?_)
    have y53 : v53 = A 7 (W 1 k.toNat).toNat := e53.trans (hK.2.2.2.1 (W 1 k.toNat).toNat (by omega)).2
    refine zs_aload_n (pc := 54) C dX9_laySack_54 rfl ?_
    refine zs_getf (pc := 55) C dX9_laySack_55 w_X9_142 f_10_70 (by decide) ?_
    refine zs_iload_n (pc := 58) C dX9_laySack_58 rfl ?_
    refine zs_iald (r := 2099) (pc := 59) C dX9_laySack_59 a_99 (by decide) (by omega) rfl (r_2099 _) (fun v59 e59 l59 u59 => ?_)
    have y59 : v59 = W 9 k.toNat := e59.trans s7
    refine zVv7 (pc := 60) C dX9_laySack_60 v_X9_410 (c_X9_layNamesW hX ) (by decide) (by decide) ⟨Nat.zero_le _, Nat.zero_le _⟩ (Nat.le_of_ble_eq_true rfl) (fun G60 hp60 => ?_)
    obtain ⟨hz60, hq60⟩ := hp60
    exact zs_vret (pc := 63) C hr hlk dX9_laySack_63 ⟨hz60, ⟨fun j hj => by rw [hq60.1 j hj, y6, y12, y18, y24, y53, y59]; unfold wNs wLie; rcases (show j = 0 ∨ j = 1 ∨ j = 2 ∨ j = 3 ∨ j = 4 ∨ j = 5 ∨ j = 6 by omega) with rfl | rfl | rfl | rfl | rfl | rfl | rfl <;> first | rfl | (show (0 : Int) = if band (bshr (W 10 k.toNat) s) 1 = 0 then 1 else 0; rw [if_neg (by omega)]) | (show (1 : Int) = if band (bshr (W 10 k.toNat) s) 1 = 0 then 1 else 0; rw [if_pos (by omega)]), hq60.2⟩⟩
  · skip
    refine zs_iconst (pc := 38) C dX9_laySack_38 (by decide) ?_
    refine zs_goto (tgt := 43) (pc := 39) C dX9_laySack_39 (by decide) ?_
    refine zs_aload_n (pc := 43) C dX9_laySack_43 rfl ?_
    refine zs_getf (pc := 44) C dX9_laySack_44 w_X9_36 f_10_27 (by decide) ?_
    refine zs_aload_n (pc := 47) C dX9_laySack_47 rfl ?_
    refine zs_getf (pc := 48) C dX9_laySack_48 w_X9_118 f_10_62 (by decide) ?_
    refine zs_iload_n (pc := 51) C dX9_laySack_51 rfl ?_
    refine zs_iald (r := 2091) (pc := 52) C dX9_laySack_52 a_91 (by decide) (by omega) rfl (r_2091 _) (fun v52 e52 l52 u52 => ?_)
    have y52 : v52 = W 1 k.toNat := e52.trans s1
    subst y52
    refine zs_iald (r := 2064) (pc := 53) C dX9_laySack_53 a_64 (by decide) (by omega) rfl (r_2064 _) (fun v53 e53 l53 u53 => ?_)
    have y53 : v53 = A 7 (W 1 k.toNat).toNat := e53.trans (hK.2.2.2.1 (W 1 k.toNat).toNat (by omega)).2
    refine zs_aload_n (pc := 54) C dX9_laySack_54 rfl ?_
    refine zs_getf (pc := 55) C dX9_laySack_55 w_X9_142 f_10_70 (by decide) ?_
    refine zs_iload_n (pc := 58) C dX9_laySack_58 rfl ?_
    refine zs_iald (r := 2099) (pc := 59) C dX9_laySack_59 a_99 (by decide) (by omega) rfl (r_2099 _) (fun v59 e59 l59 u59 => ?_)
    have y59 : v59 = W 9 k.toNat := e59.trans s7
    refine zVv7 (pc := 60) C dX9_laySack_60 v_X9_410 (c_X9_layNamesW hX ) (by decide) (by decide) ⟨Nat.zero_le _, Nat.zero_le _⟩ (Nat.le_of_ble_eq_true rfl) (fun G60 hp60 => ?_)
    obtain ⟨hz60, hq60⟩ := hp60
    exact zs_vret (pc := 63) C hr hlk dX9_laySack_63 ⟨hz60, ⟨fun j hj => by rw [hq60.1 j hj, y6, y12, y18, y24, y53, y59]; unfold wNs wLie; rcases (show j = 0 ∨ j = 1 ∨ j = 2 ∨ j = 3 ∨ j = 4 ∨ j = 5 ∨ j = 6 by omega) with rfl | rfl | rfl | rfl | rfl | rfl | rfl <;> first | rfl | (show (0 : Int) = if band (bshr (W 10 k.toNat) s) 1 = 0 then 1 else 0; rw [if_neg (by omega)]) | (show (1 : Int) = if band (bshr (W 10 k.toNat) s) 1 = 0 then 1 else 0; rw [if_pos (by omega)]), hq60.2⟩⟩

set_option maxHeartbeats 4000000 in
set_option maxRecDepth 100000 in
theorem c_X9_knownByW {l : Launch} {Γ : zΓ} {G : zH} {w : Nat} {W : aS}  (hX : zXs Γ) (hR : rW Γ w 0 W G) (hS : rS Γ w W G) (h22 : -1 ≤ W 22 0)  : zMet l Γ yX9_knownBy cX9_knownBy 1 (some .int) 0 [zr 10 w] G (zpi (fun x G' => G' = G ∧ (x = wKn W))) := by
  refine zMet_of RX9 hX (by decide) rfl (Nat.le_of_ble_eq_true rfl) ?_
  intro p e s m args below meth c C hr hlk
  show Z p l e (zrm 0) s m args below meth c Γ 1 0 0 (MQ below (zQc Γ (zpi (fun x G' => G' = G ∧ (x = wKn W)))) args s 0 0 (zA Γ)) 0 [some (zr 10 w)] [] G
  have r1 := hR.2.2.1.1
  have s2 := hS.2
  refine zs_aload_n (pc := 0) C dX9_knownBy_0 rfl ?_
  refine zs_geti (r := 1083) (pc := 1) C dX9_knownBy_1 w_X9_379 f_10_83 rfl (r_1083 0) (fun v1 e1 l1 u1 => ?_)
  refine zs_if_lt (tgt := 20) (pc := 4) C dX9_knownBy_4 (by decide) (fun h4 => ?_) (fun h4 => ?_)
  · skip
    refine zs_aload_n (pc := 20) C dX9_knownBy_20 rfl ?_
    refine zs_getf (pc := 21) C dX9_knownBy_21 w_X9_106 f_10_57 (by decide) ?_
    refine zs_iconst (pc := 24) C dX9_knownBy_24 (by decide) ?_
    refine zs_iald (r := 2087) (pc := 25) C dX9_knownBy_25 a_87 (by decide) (by omega) rfl (r_2087 _) (fun v25 e25 l25 u25 => ?_)
    refine zs_goto (tgt := 33) (pc := 26) C dX9_knownBy_26 (by decide) ?_
    exact zs_iret (pc := 33) C hr hlk dX9_knownBy_33 ⟨rfl, (by unfold wKn; have y1 : v1 = W 22 0 := e1.trans s2; first | (have y25 : v25 = W 0 0 := e25.trans r1; first | (have y16 : v16 = W 0 0 := e16.trans r1; have y8 : v8 = W 22 0 := e8.trans s2; split <;> omega) | (split <;> omega)) | (have y16 : v16 = W 0 0 := e16.trans r1; have y30 : v30 = W 22 0 := e30.trans s2; split <;> omega))⟩
  · skip
    refine zs_aload_n (pc := 7) C dX9_knownBy_7 rfl ?_
    refine zs_geti (r := 1083) (pc := 8) C dX9_knownBy_8 w_X9_379 f_10_83 rfl (r_1083 0) (fun v8 e8 l8 u8 => ?_)
    refine zs_aload_n (pc := 11) C dX9_knownBy_11 rfl ?_
    refine zs_getf (pc := 12) C dX9_knownBy_12 w_X9_106 f_10_57 (by decide) ?_
    refine zs_iconst (pc := 15) C dX9_knownBy_15 (by decide) ?_
    refine zs_iald (r := 2087) (pc := 16) C dX9_knownBy_16 a_87 (by decide) (by omega) rfl (r_2087 _) (fun v16 e16 l16 u16 => ?_)
    refine zs_icmp_le (tgt := 29) (pc := 17) C dX9_knownBy_17 (by decide) (fun h17 => ?_) (fun h17 => ?_)
    · skip
      refine zs_aload_n (pc := 29) C dX9_knownBy_29 rfl ?_
      refine zs_geti (r := 1083) (pc := 30) C dX9_knownBy_30 w_X9_379 f_10_83 rfl (r_1083 0) (fun v30 e30 l30 u30 => ?_)
      exact zs_iret (pc := 33) C hr hlk dX9_knownBy_33 ⟨rfl, (by unfold wKn; have y1 : v1 = W 22 0 := e1.trans s2; first | (have y25 : v25 = W 0 0 := e25.trans r1; first | (have y16 : v16 = W 0 0 := e16.trans r1; have y8 : v8 = W 22 0 := e8.trans s2; split <;> omega) | (split <;> omega)) | (have y16 : v16 = W 0 0 := e16.trans r1; have y30 : v30 = W 22 0 := e30.trans s2; split <;> omega))⟩
    · skip
      refine zs_aload_n (pc := 20) C dX9_knownBy_20 rfl ?_
      refine zs_getf (pc := 21) C dX9_knownBy_21 w_X9_106 f_10_57 (by decide) ?_
      refine zs_iconst (pc := 24) C dX9_knownBy_24 (by decide) ?_
      refine zs_iald (r := 2087) (pc := 25) C dX9_knownBy_25 a_87 (by decide) (by omega) rfl (r_2087 _) (fun v25 e25 l25 u25 => ?_)
      refine zs_goto (tgt := 33) (pc := 26) C dX9_knownBy_26 (by decide) ?_
      exact zs_iret (pc := 33) C hr hlk dX9_knownBy_33 ⟨rfl, (by unfold wKn; have y1 : v1 = W 22 0 := e1.trans s2; first | (have y25 : v25 = W 0 0 := e25.trans r1; first | (have y16 : v16 = W 0 0 := e16.trans r1; have y8 : v8 = W 22 0 := e8.trans s2; split <;> omega) | (split <;> omega)) | (have y16 : v16 = W 0 0 := e16.trans r1; have y30 : v30 = W 22 0 := e30.trans s2; split <;> omega))⟩

set_option maxHeartbeats 4000000 in
set_option maxRecDepth 100000 in
theorem c_X9_knownW {l : Launch} {Γ : zΓ} {G : zH} {w : Nat} {a : Int} {W : aS}  (hX : zXs Γ) (hR : rW Γ w 0 W G) (hS : rS Γ w W G)  : zMet l Γ yX9_known cX9_known 2 (some .boolean) 1 [zr 10 w, zi a] G (zpi (fun x G' => zsm [1002, 1083] G G' ∧ ((x = 0 ∨ x = 1) ∧ (x = 1 ↔ (-1 ≤ a ∧ a ≤ W 0 0)) ∧ rW Γ w 0 (if (-1 ≤ a ∧ a ≤ W 0 0) then up W 22 0 a else W) G' ∧ rS Γ w (if (-1 ≤ a ∧ a ≤ W 0 0) then up W 22 0 a else W) G' ∧ G'.2.1 = G.2.1))) := by
  refine zMet_of RX9 hX (by decide) rfl (Nat.le_of_ble_eq_true rfl) ?_
  intro p e s m args below meth c C hr hlk
  show Z p l e (zrm 1) s m args below meth c Γ 2 0 0 (MQ below (zQc Γ (zpi (fun x G' => zsm [1002, 1083] G G' ∧ ((x = 0 ∨ x = 1) ∧ (x = 1 ↔ (-1 ≤ a ∧ a ≤ W 0 0)) ∧ rW Γ w 0 (if (-1 ≤ a ∧ a ≤ W 0 0) then up W 22 0 a else W) G' ∧ rS Γ w (if (-1 ≤ a ∧ a ≤ W 0 0) then up W 22 0 a else W) G' ∧ G'.2.1 = G.2.1)))) args s 0 0 (zA Γ)) 0 [some (zr 10 w), some (zi a)] [] G
  refine zs_loc 1 rfl (fun ha1 hb1 => ?_)
  have r1 := hR.2.2.1.1
  refine zs_aload_n (pc := 0) C dX9_known_0 rfl ?_
  refine zs_iconst (pc := 1) C dX9_known_1 (by decide) ?_
  refine zs_puti (r := 1002) (pc := 2) C dX9_known_2 w_X9_178 f_10_2 rfl (r_1002 0) (by omega) ?_
  refine zs_iload_n (pc := 5) C dX9_known_5 rfl ?_
  refine zs_iconst (pc := 6) C dX9_known_6 (by decide) ?_
  refine zs_aload_n (pc := 7) C dX9_known_7 rfl ?_
  refine zs_getf (pc := 8) C dX9_known_8 w_X9_106 f_10_57 (by decide) ?_
  refine zs_iconst (pc := 11) C dX9_known_11 (by decide) ?_
  refine zs_iald (r := 2087) (pc := 12) C dX9_known_12 a_87 (by decide) (by omega) rfl (r_2087 _) (fun v12 e12 l12 u12 => ?_)
  try simp only [zuI_1, zuI_2, zuJ_1, zuJ_2, zuJ_3, zuP_1, zuP_2, zuP_3, zuC_1, zuC_2, reduceIte, Nat.reduceEqDiff, false_and, and_false, true_and, and_true, and_self, or_true, true_or, or_false, false_or] at e12
  have y12 : v12 = W 0 0 := e12.trans r1
  refine zSip3 (pc := 13) C dX9_known_13 s_X9_223 (c_X9_isIn hX ) (by decide) ⟨Nat.zero_le _, Nat.zero_le _⟩ (Nat.le_of_ble_eq_true rfl) (fun x13 l13 u13 hp13 => ?_)
  have hq13 := hp13
  try simp only [zuI_1, zuI_2, zuJ_1, zuJ_2, zuJ_3, zuP_1, zuP_2, zuP_3, zuC_1, zuC_2, reduceIte, Nat.reduceEqDiff, false_and, and_false, true_and, and_true, and_self, or_true, true_or, or_false, false_or] at hq13
  refine zs_if_ne (tgt := 21) (pc := 16) C dX9_known_16 (by decide) (fun h16 => ?_) (fun h16 => ?_)
  · skip
    refine zs_aload_n (pc := 21) C dX9_known_21 rfl ?_
    refine zs_iload_n (pc := 22) C dX9_known_22 rfl ?_
    refine zs_puti (r := 1083) (pc := 23) C dX9_known_23 w_X9_379 f_10_83 rfl (r_1083 0) (by omega) ?_
    refine zs_iconst (pc := 26) C dX9_known_26 (by decide) ?_
    exact zs_zret (pc := 27) C hr hlk dX9_known_27 (by omega) (by
        have hok : (-1 ≤ a ∧ a ≤ W 0 0) := by have q := hq13.2.mp (by omega); omega
        exact ⟨by repeat (first | exact zsm_rf | assumption | refine zsm_C (by decide) ?_ | refine zsm_I (by decide) ?_ | refine zsm_J ?_ | refine zsm_c (by assumption) (by decide) ?_), ⟨Or.inr rfl, ⟨fun _ => hok, fun _ => rfl⟩, by rw [if_pos hok]; exact rW_Q (wQ_s (wQ_u (Or.inr rfl) wQ_rf)) (by repeat (first | assumption | refine rW_sm (by assumption) (by decide) ?_ | refine rW_I (by decide) ?_ | refine rW_J ?_)), by rw [if_pos hok]; exact ⟨(by have q := hS.1; rw [up_f (by decide)]; exact rQ_22 (rQ_z (rs := [1002, 1083]) (by repeat (first | exact zsm_rf | assumption | refine zsm_C (by decide) ?_ | refine zsm_I (by decide) ?_ | refine zsm_J ?_ | refine zsm_c (by assumption) (by decide) ?_)) (by decide) q)), by simp only [zuI_1, zuI_2, zuJ_1, zuJ_2, zuJ_3, zuP_1, zuP_2, zuP_3, zuC_1, zuC_2, reduceIte, Nat.reduceEqDiff, false_and, and_false, true_and, and_true, and_self, or_true, true_or, or_false, false_or, up_eq]⟩, rfl⟩⟩)
  · skip
    refine zs_iconst (pc := 19) C dX9_known_19 (by decide) ?_
    exact zs_zret (pc := 20) C hr hlk dX9_known_20 (by omega) (by
        have hno : ¬ (-1 ≤ a ∧ a ≤ W 0 0) := fun z => by have := hq13.2.mpr ⟨z.1, by omega⟩; omega
        exact ⟨by repeat (first | exact zsm_rf | assumption | refine zsm_C (by decide) ?_ | refine zsm_I (by decide) ?_ | refine zsm_J ?_ | refine zsm_c (by assumption) (by decide) ?_), ⟨Or.inl rfl, ⟨fun z => absurd z (by decide), fun z => absurd z hno⟩, by rw [if_neg hno]; repeat (first | assumption | refine rW_sm (by assumption) (by decide) ?_ | refine rW_I (by decide) ?_ | refine rW_J ?_), by rw [if_neg hno]; repeat (first | assumption | refine rS_sm (by assumption) (by decide) ?_ | refine rS_I (by decide) ?_ | refine rS_J ?_), rfl⟩⟩)

set_option maxHeartbeats 4000000 in
set_option maxRecDepth 100000 in
theorem c_X9_isFitW {l : Launch} {Γ : zΓ} {G : zH} {w : Nat} {k : Int} {A W : aS}  (hX : zXs Γ) (hR : rW Γ w 0 W G) (hK : kR Γ w A G) (hW : WI A W) (hT : TA A) (hS : rS Γ w W G) (hk : 0 ≤ k ∧ k < 7)  : zMet l Γ yX9_isFit cX9_isFit 3 (some .boolean) 4 [zr 10 w, zi k] G (zpi (fun x G' => zsm [1050] G G' ∧ ((x = 0 ∨ x = 1) ∧ (x = 1 ↔ wFt A W k (wKn W)) ∧ zsj [2079, 2080] G G'))) := by
  refine zMet_of RX9 hX (by decide) rfl (Nat.le_of_ble_eq_true rfl) ?_
  intro p e s m args below meth c C hr hlk
  show Z p l e (zrm 4) s m args below meth c Γ 3 0 0 (MQ below (zQc Γ (zpi (fun x G' => zsm [1050] G G' ∧ ((x = 0 ∨ x = 1) ∧ (x = 1 ↔ wFt A W k (wKn W)) ∧ zsj [2079, 2080] G G')))) args s 0 0 (zA Γ)) 0 [some (zr 10 w), some (zi k), none] [] G
  refine zs_loc 1 rfl (fun ha1 hb1 => ?_)
  have hT0 := hT.1
  have h00 := hW.1
  have h22 := hW.2.2.2.2.2.2.2.2.2
  have hkn := wKn_in hW
  refine zs_iconst (pc := 0) C dX9_isFit_0 (by decide) ?_
  refine zs_istore_n (pc := 1) C dX9_isFit_1 (by decide) ?_
  dsimp only [zset, zclr, znone]
  have L2 : ∀ (nn : Nat) (x2 : Int) (G1 : zH), (0 ≤ x2 ∧ x2 ≤ wKn W) → (zsm [1050] G G1) → (wFt A W k x2) → (zsj [2079, 2080] G G1) → (60 - x2).toNat < nn → Z p l e (zrm 4) s m args below meth c Γ 3 0 0 (MQ below (zQc Γ (zpi (fun x G' => zsm [1050] G G' ∧ ((x = 0 ∨ x = 1) ∧ (x = 1 ↔ wFt A W k (wKn W)) ∧ zsj [2079, 2080] G G')))) args s 0 0 (zA Γ)) 2 [some (zr 10 w), some (zi k), some (zi x2)] [] G1 := by
    intro nn
    induction nn with
    | zero => intro x2 G1 h2_0 h2_1 h2_2 h2_3 hm; exact absurd hm (Nat.not_lt_zero _)
    | succ nn ih2 =>
      intro x2 G1 h2_0 h2_1 h2_2 h2_3 hm2
      refine zs_iload_n (pc := 2) C dX9_isFit_2 rfl ?_
      refine zs_aload_n (pc := 3) C dX9_isFit_3 rfl ?_
      refine zVip0 (pc := 4) C dX9_isFit_4 v_X9_541 (c_X9_knownByW hX (rW_sm h2_1 (by decide) hR) (rS_sm h2_1 (by decide) hS) h22.1) (by decide) (by decide) ⟨Nat.zero_le _, Nat.zero_le _⟩ (Nat.le_of_ble_eq_true rfl) (fun x4 l4 u4 hp4 => ?_)
      have hq4 := hp4
      refine zs_icmp_ge (tgt := 57) (pc := 7) C dX9_isFit_7 (by decide) (fun h7 => ?_) (fun h7 => ?_)
      · skip
        refine zs_iconst (pc := 57) C dX9_isFit_57 (by decide) ?_
        exact zs_zret (pc := 58) C hr hlk dX9_isFit_58 (by omega) ⟨by repeat (first | exact zsm_rf | assumption | refine zsm_C (by decide) ?_ | refine zsm_I (by decide) ?_ | refine zsm_J ?_ | refine zsm_c (by assumption) (by decide) ?_), ⟨Or.inr rfl, ⟨fun _ => (by have e : x2 = wKn W := (by omega); rw [← e]; exact h2_2), fun _ => rfl⟩, h2_3⟩⟩
      · skip
        refine zs_aload_n (pc := 10) C dX9_isFit_10 rfl ?_
        refine zs_iload_n (pc := 11) C dX9_isFit_11 rfl ?_
        refine zs_aload_n (pc := 12) C dX9_isFit_12 rfl ?_
        refine zs_getf (pc := 13) C dX9_isFit_13 w_X9_121 f_10_63 (by decide) ?_
        refine zs_iload_n (pc := 16) C dX9_isFit_16 rfl ?_
        refine zs_iald (r := 2092) (pc := 17) C dX9_isFit_17 a_92 (by decide) (by omega) rfl (r_2092 _) (fun v17 e17 l17 u17 => ?_)
        have hk2 := (hW.2.1 x2.toNat (by omega)).2.1
        obtain ⟨s1, s2, -⟩ := hS.1 x2.toNat (by omega)
        have y17 : v17 = W 2 x2.toNat := e17.trans (by rw [h2_1.1 2092 (by decide)]; exact s2)
        subst y17
        refine zVv2 (pc := 18) C dX9_isFit_18 v_X9_519 (c_X9_laySackW (A := A) (W := W) hX (kR_sm h2_1 (by decide) hK) hW hT (rS_sm h2_1 (by decide) hS) (by omega) (by omega)) (by decide) (by decide) ⟨Nat.zero_le _, Nat.zero_le _⟩ (Nat.le_of_ble_eq_true rfl) (fun G18 hp18 => ?_)
        obtain ⟨hz18, hq18⟩ := hp18
        have hj18 := hq18.2
        refine zs_aload_n (pc := 21) C dX9_isFit_21 rfl ?_
        refine zs_iload_n (pc := 22) C dX9_isFit_22 rfl ?_
        refine zs_aload_n (pc := 23) C dX9_isFit_23 rfl ?_
        refine zs_getf (pc := 24) C dX9_isFit_24 w_X9_30 f_10_25 (by decide) ?_
        refine zs_aload_n (pc := 27) C dX9_isFit_27 rfl ?_
        refine zs_getf (pc := 28) C dX9_isFit_28 w_X9_121 f_10_63 (by decide) ?_
        refine zs_iload_n (pc := 31) C dX9_isFit_31 rfl ?_
        refine zs_iald (r := 2092) (pc := 32) C dX9_isFit_32 a_92 (by decide) (by omega) rfl (r_2092 _) (fun v32 e32 l32 u32 => ?_)
        have y32 : v32 = W 2 x2.toNat := e32.trans (by rw [hz18.1 2092 (by decide), h2_1.1 2092 (by decide)]; exact s2)
        subst y32
        refine zs_iald (r := 2062) (pc := 33) C dX9_isFit_33 a_62 (by decide) (by omega) rfl (r_2062 _) (fun v33 e33 l33 u33 => ?_)
        have y33 : v33 = A 6 (W 2 x2.toNat).toNat := e33.trans (by rw [hz18.1 2062 (by decide), h2_1.1 2062 (by decide)]; exact (hK.2.2.1 (W 2 x2.toNat).toNat (by omega)).2)
        subst y33
        refine zs_sipush (pc := 34) C dX9_isFit_34 (by decide) (by decide) ?_
        refine zVi3 (pc := 37) C dX9_isFit_37 v_X9_424 (c_X9_boundLawW (nm := wNs A W x2 (W 2 x2.toNat)) hX (kR_sm hz18 (by decide) (kR_sm h2_1 (by decide) hK)) hT.2.2.2.2.2.2 hk hq18.1 (wNs_in hT hW (by omega) (by omega) (by omega))) (by decide) (by decide) ⟨Nat.zero_le _, Nat.zero_le _⟩ (Nat.le_of_ble_eq_true rfl) (fun x37 G37 l37 u37 hp37 => ?_)
        obtain ⟨hz37, hq37⟩ := hp37
        have hj37 := hq37.2
        have hx37 : x37 = wThen A W x2 k (W 2 x2.toNat) := hq37.1
        refine zs_aload_n (pc := 40) C dX9_isFit_40 rfl ?_
        refine zs_getf (pc := 41) C dX9_isFit_41 w_X9_124 f_10_64 (by decide) ?_
        refine zs_iload_n (pc := 44) C dX9_isFit_44 rfl ?_
        refine zs_iald (r := 2093) (pc := 45) C dX9_isFit_45 a_93 (by decide) (by omega) rfl (r_2093 _) (fun v45 e45 l45 u45 => ?_)
        have y45 : v45 = W 3 x2.toNat := e45.trans (by rw [hz37.1 2093 (by decide), hz18.1 2093 (by decide), h2_1.1 2093 (by decide)]; have q := (hR.2.2.2 x2.toNat (by omega)).1; rw [show (60 * (0 : Int) + (x2.toNat : Int)).toNat = x2.toNat by omega] at q; exact q)
        refine zs_icmp_eq (tgt := 51) (pc := 46) C dX9_isFit_46 (by decide) (fun h46 => ?_) (fun h46 => ?_)
        · skip
          first | refine zs_iinc (pc := 51) C dX9_isFit_51 rfl (by decide) (by omega) ?_ | refine zs_iincF (pc := 51) C dX9_isFit_51 rfl (by decide) (fun z51 hz511 hz512 => ?_)
          dsimp only [zset, zclr, znone]
          refine zs_goto (tgt := 2) (pc := 54) C dX9_isFit_54 (by decide) ?_
          exact zs_wk (ih2 _ _ (by omega) (by repeat (first | exact zsm_rf | assumption | refine zsm_C (by decide) ?_ | refine zsm_I (by decide) ?_ | refine zsm_J ?_ | refine zsm_c (by assumption) (by decide) ?_)) ((wFt_s (by omega)).mpr ⟨h2_2, by omega⟩) (by repeat (first | exact zsj_rf | assumption | refine zsj_I ?_ | refine zsj_J (by decide) ?_ | refine zsj_e (by assumption) ?_ | refine zsj_c (by assumption) (by decide) ?_)) (by first | omega | (simp only [zuI_1, zuI_2, zuJ_1, zuJ_2, zuJ_3, zuP_1, zuP_2, zuP_3, zuC_1, zuC_2, reduceIte, Nat.reduceEqDiff, false_and, and_false, true_and, and_true, and_self, or_true, true_or, or_false, false_or]; omega))) (zwk_s rfl (zwk_s rfl (zwk_s rfl zwk_0)))
        · skip
          refine zs_iconst (pc := 49) C dX9_isFit_49 (by decide) ?_
          exact zs_zret (pc := 50) C hr hlk dX9_isFit_50 (by omega) ⟨by repeat (first | exact zsm_rf | assumption | refine zsm_C (by decide) ?_ | refine zsm_I (by decide) ?_ | refine zsm_J ?_ | refine zsm_c (by assumption) (by decide) ?_), ⟨Or.inl rfl, ⟨fun q => absurd q (by decide), fun q => absurd q (wFt_no (k := x2) (by omega) (by omega))⟩, (by repeat (first | exact zsj_rf | assumption | refine zsj_I ?_ | refine zsj_J (by decide) ?_ | refine zsj_e (by assumption) ?_ | refine zsj_c (by assumption) (by decide) ?_))⟩⟩
  exact zs_wk (L2 _ _ _ (by omega) zsm_rf (by exact trivial) zsj_rf (Nat.lt_succ_self _)) (zwk_s rfl (zwk_s rfl (zwk_s rfl zwk_0)))

/-- the bit of the law as told -/
noncomputable def wF0 (A W : aS) : Int := if wFI A W 0 = 1 then p2 (A 4 3).toNat else 0
theorem wF0_in {A W : aS} : wF0 A W = 0 ∨ wF0 A W = p2 (A 4 3).toNat := by
  unfold wF0
  split
  · exact Or.inr rfl
  · exact Or.inl rfl
theorem bsh_p2 : ∀ k : Nat, k < 4 → bshl 1 k = p2 k := by decide +kernel
theorem bsh_i {k : Int} (h : 0 ≤ k ∧ k < 4) : bshl 1 k = p2 k.toNat := by
  have q := bsh_p2 k.toNat (by omega)
  rwa [show ((k.toNat : Nat) : Int) = k by omega] at q
theorem bor_q : ∀ M : Nat, M < 4 → ∀ k : Nat, k < M → ∀ y : Nat, y < 8 → (y : Int) < p2 k → bor (p2 M + y) (bshl 1 k) = p2 M + y + p2 k ∧ bor (p2 M + y) 0 = p2 M + y := by decide +kernel
theorem bor_2 {M k B y : Int} (hM : 0 ≤ M ∧ M ≤ 3) (hk : 0 ≤ k ∧ k < M) (hB : B = 0 ∨ B = p2 M.toNat) (hy : 0 ≤ y ∧ y < p2 k.toNat) : bor (B + y) (bshl 1 k) = B + y + p2 k.toNat ∧ bor (B + y) 0 = B + y := by
  rcases hB with rfl | rfl
  · rw [Int.zero_add]
    exact bor_i (by omega) hy
  · have h8 : p2 k.toNat ≤ 8 := (show ∀ k : Nat, k < 4 → p2 k ≤ 8 by decide) k.toNat (by omega)
    have h := bor_q M.toNat (by omega) k.toNat (by omega) y.toNat (by omega) (by omega)
    rwa [show ((k.toNat : Nat) : Int) = k by omega, show ((y.toNat : Nat) : Int) = y by omega] at h

set_option maxHeartbeats 4000000 in
set_option maxRecDepth 100000 in
theorem c_X9_fitsW {l : Launch} {Γ : zΓ} {G : zH} {w : Nat} {A W : aS}  (hX : zXs Γ) (hR : rW Γ w 0 W G) (hK : kR Γ w A G) (hW : WI A W) (hT : TA A) (hS : rS Γ w W G)  : zMet l Γ yX9_fits cX9_fits 3 (some .int) 5 [zr 10 w] G (zpi (fun x G' => zsm [1002, 1050] G G' ∧ (x = wFB A W ∧ zsj [2079, 2080] G G'))) := by
  refine zMet_of RX9 hX (by decide) rfl (Nat.le_of_ble_eq_true rfl) ?_
  intro p e s m args below meth c C hr hlk
  show Z p l e (zrm 5) s m args below meth c Γ 3 0 0 (MQ below (zQc Γ (zpi (fun x G' => zsm [1002, 1050] G G' ∧ (x = wFB A W ∧ zsj [2079, 2080] G G')))) args s 0 0 (zA Γ)) 0 [some (zr 10 w), none, none] [] G
  have hT0 := hT.1
  have k15 := hK.1.2.2.2.1
  refine zs_aload_n (pc := 0) C dX9_fits_0 rfl ?_
  refine zs_iconst (pc := 1) C dX9_fits_1 (by decide) ?_
  refine zs_puti (r := 1002) (pc := 2) C dX9_fits_2 w_X9_178 f_10_2 rfl (r_1002 0) (by omega) ?_
  refine zs_aload_n (pc := 5) C dX9_fits_5 rfl ?_
  refine zs_iconst (pc := 6) C dX9_fits_6 (by decide) ?_
  refine zVi1 (pc := 7) C dX9_fits_7 v_X9_544 (c_X9_isFitW (A := A) (W := W) hX (by repeat (first | assumption | refine rW_sm (by assumption) (by decide) ?_ | refine rW_I (by decide) ?_ | refine rW_J ?_)) (by repeat (first | assumption | refine kR_sm (by assumption) (by decide) ?_ | refine kR_I (by decide) ?_ | refine kR_J ?_)) hW hT (by repeat (first | assumption | refine rS_sm (by assumption) (by decide) ?_ | refine rS_I (by decide) ?_ | refine rS_J ?_)) (by decide)) (by decide) (by decide) ⟨Nat.zero_le _, Nat.zero_le _⟩ (Nat.le_of_ble_eq_true rfl) (fun x7 G7 l7 u7 hp7 => ?_)
  obtain ⟨hz7, hq7⟩ := hp7
  try simp only [zuI_1, zuI_2, zuJ_1, zuJ_2, zuJ_3, zuP_1, zuP_2, zuP_3, zuC_1, zuC_2, reduceIte, Nat.reduceEqDiff, false_and, and_false, true_and, and_true, and_self, or_true, true_or, or_false, false_or] at hq7
  have hj7 := hq7.2.2
  have J23 : ∀ (vb : Int), (vb = wF0 A W) → Z p l e (zrm 5) s m args below meth c Γ 3 0 0 (MQ below (zQc Γ (zpi (fun x G' => zsm [1002, 1050] G G' ∧ (x = wFB A W ∧ zsj [2079, 2080] G G')))) args s 0 0 (zA Γ)) 23 [some (zr 10 w), none, none] [zi vb] G7 := by
    intro vb h23_0
    have hvb := h23_0
    refine zs_istore_n (pc := 23) C dX9_fits_23 (by decide) ?_
    dsimp only [zset, zclr, znone]
    refine zs_iconst (pc := 24) C dX9_fits_24 (by decide) ?_
    refine zs_istore_n (pc := 25) C dX9_fits_25 (by decide) ?_
    dsimp only [zset, zclr, znone]
    have L26 : ∀ (nn : Nat) (x1 x2 : Int) (G1 : zH), (0 ≤ x2 ∧ x2 ≤ A 4 3) → (x1 = wF0 A W + wBi (fun j => wFI A W (4 + (j : Int))) x2.toNat) → (zsm [1002, 1050] G G1) → (zsj [2079, 2080] G G1) → (4 - x2).toNat < nn → Z p l e (zrm 5) s m args below meth c Γ 3 0 0 (MQ below (zQc Γ (zpi (fun x G' => zsm [1002, 1050] G G' ∧ (x = wFB A W ∧ zsj [2079, 2080] G G')))) args s 0 0 (zA Γ)) 26 [some (zr 10 w), some (zi x1), some (zi x2)] [] G1 := by
      intro nn
      induction nn with
      | zero => intro x1 x2 G1 h26_0 h26_1 h26_2 h26_3 hm; exact absurd hm (Nat.not_lt_zero _)
      | succ nn ih26 =>
        intro x1 x2 G1 h26_0 h26_1 h26_2 h26_3 hm26
        refine zs_iload_n (pc := 26) C dX9_fits_26 rfl ?_
        refine zs_aload_n (pc := 27) C dX9_fits_27 rfl ?_
        refine zs_geti (r := 1015) (pc := 28) C dX9_fits_28 w_X9_267 f_10_15 rfl (r_1015 0) (fun v28 e28 l28 u28 => ?_)
        have y28 : v28 = A 4 3 := e28.trans (by rw [h26_2.1 1015 (by decide)]; exact k15)
        subst y28
        refine zs_icmp_ge (tgt := 60) (pc := 31) C dX9_fits_31 (by decide) (fun h31 => ?_) (fun h31 => ?_)
        · skip
          refine zs_iload_n (pc := 60) C dX9_fits_60 rfl ?_
          exact zs_iret (pc := 61) C hr hlk dX9_fits_61 ⟨by repeat (first | exact zsm_rf | assumption | refine zsm_C (by decide) ?_ | refine zsm_I (by decide) ?_ | refine zsm_J ?_ | refine zsm_c (by assumption) (by decide) ?_), ⟨(by have e : x2 = A 4 3 := (by omega); rw [h26_1, e]; unfold wFB wF0; omega), h26_3⟩⟩
        · skip
          have hs := wBi_f (A := A) (W := W) (k := x2) (by omega)
          have hb := bor_2 (M := A 4 3) (k := x2) (B := wF0 A W) (y := wBi (fun j => wFI A W (4 + (j : Int))) x2.toNat) (by omega) (by omega) wF0_in (by have q := wBi_in (P := (fun j => wFI A W (4 + (j : Int)))) x2.toNat (by omega); omega)
          refine zs_iload_n (pc := 34) C dX9_fits_34 rfl ?_
          refine zs_aload_n (pc := 35) C dX9_fits_35 rfl ?_
          refine zs_iconst (pc := 36) C dX9_fits_36 (by decide) ?_
          refine zs_iload_n (pc := 37) C dX9_fits_37 rfl ?_
          first | refine zs_iadd (pc := 38) C dX9_fits_38 (by omega) ?_ | refine zs_iaddF (pc := 38) C dX9_fits_38 (fun z38 hz381 hz382 => ?_)
          refine zVi1 (pc := 39) C dX9_fits_39 v_X9_544 (c_X9_isFitW (A := A) (W := W) hX (rW_sm h26_2 (by decide) hR) (kR_sm h26_2 (by decide) hK) hW hT (rS_sm h26_2 (by decide) hS) (by omega)) (by decide) (by decide) ⟨Nat.zero_le _, Nat.zero_le _⟩ (Nat.le_of_ble_eq_true rfl) (fun x39 G39 l39 u39 hp39 => ?_)
          obtain ⟨hz39, hq39⟩ := hp39
          have hj39 := hq39.2.2
          refine zs_if_eq (tgt := 51) (pc := 42) C dX9_fits_42 (by decide) (fun h42 => ?_) (fun h42 => ?_)
          · skip
            rw [if_neg (fun q => by have := hq39.2.1.mpr (wFI_1.mp q); omega)] at hs
            refine zs_iconst (pc := 51) C dX9_fits_51 (by decide) ?_
            refine zs_iorX (pc := 52) C dX9_fits_52 (fun z52 ez52 hz521 hz522 => ?_)
            have hz52 : z52 = wF0 A W + wBi (fun j => wFI A W (4 + (j : Int))) (x2 + 1).toNat := by first | (rw [ez52, ez47, h26_1, hb.1, hs]; omega) | (rw [ez52, h26_1, hb.2, hs]; omega)
            refine zs_istore_n (pc := 53) C dX9_fits_53 (by decide) ?_
            dsimp only [zset, zclr, znone]
            first | refine zs_iinc (pc := 54) C dX9_fits_54 rfl (by decide) (by omega) ?_ | refine zs_iincF (pc := 54) C dX9_fits_54 rfl (by decide) (fun z54 hz541 hz542 => ?_)
            dsimp only [zset, zclr, znone]
            refine zs_goto (tgt := 26) (pc := 57) C dX9_fits_57 (by decide) ?_
            exact zs_wk (ih26 _ _ _ (by omega) hz52 (by repeat (first | exact zsm_rf | assumption | refine zsm_C (by decide) ?_ | refine zsm_I (by decide) ?_ | refine zsm_J ?_ | refine zsm_c (by assumption) (by decide) ?_)) (by repeat (first | exact zsj_rf | assumption | refine zsj_I ?_ | refine zsj_J (by decide) ?_ | refine zsj_e (by assumption) ?_ | refine zsj_c (by assumption) (by decide) ?_)) (by first | omega | (simp only [zuI_1, zuI_2, zuJ_1, zuJ_2, zuJ_3, zuP_1, zuP_2, zuP_3, zuC_1, zuC_2, reduceIte, Nat.reduceEqDiff, false_and, and_false, true_and, and_true, and_self, or_true, true_or, or_false, false_or]; omega))) (zwk_s rfl (zwk_s rfl (zwk_s rfl zwk_0)))
          · skip
            rw [if_pos (wFI_1.mpr (hq39.2.1.mp (by omega)))] at hs
            refine zs_iconst (pc := 45) C dX9_fits_45 (by decide) ?_
            refine zs_iload_n (pc := 46) C dX9_fits_46 rfl ?_
            refine zs_ishlX (pc := 47) C dX9_fits_47 (fun z47 ez47 hz471 hz472 => ?_)
            refine zs_goto (tgt := 52) (pc := 48) C dX9_fits_48 (by decide) ?_
            refine zs_iorX (pc := 52) C dX9_fits_52 (fun z52 ez52 hz521 hz522 => ?_)
            have hz52 : z52 = wF0 A W + wBi (fun j => wFI A W (4 + (j : Int))) (x2 + 1).toNat := by first | (rw [ez52, ez47, h26_1, hb.1, hs]; omega) | (rw [ez52, h26_1, hb.2, hs]; omega)
            refine zs_istore_n (pc := 53) C dX9_fits_53 (by decide) ?_
            dsimp only [zset, zclr, znone]
            first | refine zs_iinc (pc := 54) C dX9_fits_54 rfl (by decide) (by omega) ?_ | refine zs_iincF (pc := 54) C dX9_fits_54 rfl (by decide) (fun z54 hz541 hz542 => ?_)
            dsimp only [zset, zclr, znone]
            refine zs_goto (tgt := 26) (pc := 57) C dX9_fits_57 (by decide) ?_
            exact zs_wk (ih26 _ _ _ (by omega) hz52 (by repeat (first | exact zsm_rf | assumption | refine zsm_C (by decide) ?_ | refine zsm_I (by decide) ?_ | refine zsm_J ?_ | refine zsm_c (by assumption) (by decide) ?_)) (by repeat (first | exact zsj_rf | assumption | refine zsj_I ?_ | refine zsj_J (by decide) ?_ | refine zsj_e (by assumption) ?_ | refine zsj_c (by assumption) (by decide) ?_)) (by first | omega | (simp only [zuI_1, zuI_2, zuJ_1, zuJ_2, zuJ_3, zuP_1, zuP_2, zuP_3, zuC_1, zuC_2, reduceIte, Nat.reduceEqDiff, false_and, and_false, true_and, and_true, and_self, or_true, true_or, or_false, false_or]; omega))) (zwk_s rfl (zwk_s rfl (zwk_s rfl zwk_0)))
    exact zs_wk (L26 _ _ _ _ (by omega) (by rw [hvb]; exact (Int.add_zero _).symm) (by repeat (first | exact zsm_rf | assumption | refine zsm_C (by decide) ?_ | refine zsm_I (by decide) ?_ | refine zsm_J ?_ | refine zsm_c (by assumption) (by decide) ?_)) (by repeat (first | exact zsj_rf | assumption | refine zsj_I ?_ | refine zsj_J (by decide) ?_ | refine zsj_e (by assumption) ?_ | refine zsj_c (by assumption) (by decide) ?_)) (Nat.lt_succ_self _)) (zwk_s rfl (zwk_s rfl (zwk_s rfl zwk_0)))
  refine zs_if_eq (tgt := 22) (pc := 10) C dX9_fits_10 (by decide) (fun h10 => ?_) (fun h10 => ?_)
  · skip
    refine zs_iconst (pc := 22) C dX9_fits_22 (by decide) ?_
    exact zs_wk (J23 _ (by unfold wF0; first | (rw [ez18, if_pos (wFI_1.mpr (hq7.2.1.mp (by omega))), bsh_i (by omega)]; done) | (rw [if_neg (fun q => by have := hq7.2.1.mpr (wFI_1.mp q); omega)]; done))) (zwk_s rfl (zwk_n (zwk_n zwk_0)))
  · skip
    refine zs_iconst (pc := 13) C dX9_fits_13 (by decide) ?_
    refine zs_aload_n (pc := 14) C dX9_fits_14 rfl ?_
    refine zs_geti (r := 1015) (pc := 15) C dX9_fits_15 w_X9_267 f_10_15 rfl (r_1015 0) (fun v15 e15 l15 u15 => ?_)
    have y15 : v15 = A 4 3 := e15.trans (by rw [hz7.1 1015 (by decide)]; first | exact k15 | (simp only [zuI_1, zuI_2, zuJ_1, zuJ_2, zuJ_3, zuP_1, zuP_2, zuP_3, zuC_1, zuC_2, reduceIte, Nat.reduceEqDiff, false_and, and_false, true_and, and_true, and_self, or_true, true_or, or_false, false_or]; exact k15))
    subst y15
    refine zs_ishlX (pc := 18) C dX9_fits_18 (fun z18 ez18 hz181 hz182 => ?_)
    refine zs_goto (tgt := 23) (pc := 19) C dX9_fits_19 (by decide) ?_
    exact zs_wk (J23 _ (by unfold wF0; first | (rw [ez18, if_pos (wFI_1.mpr (hq7.2.1.mp (by omega))), bsh_i (by omega)]; done) | (rw [if_neg (fun q => by have := hq7.2.1.mpr (wFI_1.mp q); omega)]; done))) (zwk_s rfl (zwk_n (zwk_n zwk_0)))
