/-- a telling at t holds A -/
def TV (Γ : zΓ) (t : Nat) (A : aS) (G : zH) : Prop := ∀ f j : Nat, 4 ≤ f → f < 22 → G.1 (creg f) (cad Γ 0 t f) j = A f j
theorem cad_w {Γ : zΓ} {w t f : Nat} (h4 : 4 ≤ f) (hf : f < 22) : cad Γ w t f = cad Γ 0 t f := by
  rcases (show f = 4 ∨ f = 5 ∨ f = 6 ∨ f = 7 ∨ f = 8 ∨ f = 9 ∨ f = 10 ∨ f = 11 ∨ f = 12 ∨ f = 13 ∨ f = 14 ∨ f = 15 ∨ f = 16 ∨ f = 17 ∨ f = 18 ∨ f = 19 ∨ f = 20 ∨ f = 21 by omega) with rfl | rfl | rfl | rfl | rfl | rfl | rfl | rfl | rfl | rfl | rfl | rfl | rfl | rfl | rfl | rfl | rfl | rfl <;> rfl
theorem TV_QC {b : Nat → Int} {n : Int} {N : Nat} {Γ : zΓ} {w t : Nat} {A : aS} {G : zH} (h : QC b n N Γ w t A G) : TV Γ t A G := fun f j h4 hf => by
  rw [← cad_w (w := w) h4 hf]
  exact h.1.2 f j (by omega)
theorem TV_n {Γ : zΓ} {t : Nat} {A : aS} {G G1 : zH} {rs : List Nat} (hs : zsn rs G G1) (hr : ∀ f : Nat, f < 22 → 4 ≤ f → creg f ∉ rs) (h : TV Γ t A G) : TV Γ t A G1 := fun f j h4 hf => by
  rw [hs _ (hr f hf h4)]
  exact h f j h4 hf
/-- two tellings have no row in common -/
def AP (Γ : zΓ) (t u : Nat) : Prop := ∀ f : Nat, 4 ≤ f → f < 22 → cad Γ 0 t f ≠ cad Γ 0 u f
theorem AP_s {Γ : zΓ} {t u : Nat} (h : AP Γ t u) : AP Γ u t := fun f h4 hf q => h f h4 hf q.symm
theorem TV_OF {Γ : zΓ} {w t u : Nat} {A : aS} {G G1 : zH} (hO : OF Γ w t G G1) (ha : AP Γ t u) (h : TV Γ u A G) : TV Γ u A G1 := fun f j h4 hf => by
  rw [hO f _ j h4 hf (fun q => ha f h4 hf (by rw [← cad_w (w := w) h4 hf]; exact q.symm))]
  exact h f j h4 hf
theorem OF_n {Γ : zΓ} {w t : Nat} {G G1 G2 : zH} {rs : List Nat} (hs : zsn rs G1 G2) (hr : ∀ f : Nat, f < 22 → 4 ≤ f → creg f ∉ rs) (h : OF Γ w t G G1) : OF Γ w t G G2 := fun f a j h4 hf ha => by
  rw [hs _ (hr f hf h4)]
  exact h f a j h4 hf ha
theorem OF_b {Γ : zΓ} {w t : Nat} {G0 G G1 : zH} {rs : List Nat} (hs : zsn rs G0 G) (hr : ∀ f : Nat, f < 22 → 4 ≤ f → creg f ∉ rs) (h : OF Γ w t G G1) : OF Γ w t G0 G1 := fun f a j h4 hf ha => by
  rw [h f a j h4 hf ha, hs _ (hr f hf h4)]

set_option maxHeartbeats 4000000 in
set_option maxRecDepth 100000 in
theorem c_X3_handOverK {l : Launch} {Γ : zΓ} {G : zH} {w b : Nat} (hX : zXs Γ)  : zMet l Γ yX3_handOver cX3_handOver 3 (some (.object "ConfessionMill$Telling")) 0 [zr 4 w, zr 6 b] G (zpa 6 (fun x G' => zsn [] G G' ∧ (x = G.2.2 401 w ∧ G' = zuP G 401 w b))) := by
  refine zMet_of RX3 hX (by decide) rfl (Nat.le_of_ble_eq_true rfl) ?_
  intro p e s m args below meth c C hr hlk
  show Z p l e (zrm 0) s m args below meth c Γ 3 0 0 (MQ below (zQc Γ (zpa 6 (fun x G' => zsn [] G G' ∧ (x = G.2.2 401 w ∧ G' = zuP G 401 w b)))) args s 0 0 (zA Γ)) 0 [some (zr 4 w), some (zr 6 b), none] [] G
  refine zs_aload_n (pc := 0) C dX3_handOver_0 rfl ?_
  refine zs_getd (r := 401) (pc := 1) C dX3_handOver_1 w_X3_21 f_4_1 (by decide) rfl (fun v1 e1 t1 => ?_)
  refine zs_astore_n (pc := 4) C dX3_handOver_4 (by decide) ?_
  dsimp only [zset, zclr, znone]
  refine zs_aload_n (pc := 5) C dX3_handOver_5 rfl ?_
  refine zs_aload_n (pc := 6) C dX3_handOver_6 rfl ?_
  refine zs_putd (r := 401) (pc := 7) C dX3_handOver_7 w_X3_21 f_4_1 (by decide) rfl ?_
  refine zs_aload_n (pc := 10) C dX3_handOver_10 rfl ?_
  exact zs_aret (pc := 11) C hr hlk dX3_handOver_11 ⟨by repeat (first | exact zsn_rf | assumption | refine zsn_C (by decide) ?_ | refine zsn_I (by decide) ?_ | refine zsn_J ?_ | refine zsn_P ?_ | refine zsn_m (by assumption) (by decide) ?_ | refine zsn_c (by assumption) (by decide) ?_), ⟨e1, rfl⟩⟩

set_option maxHeartbeats 4000000 in
set_option maxRecDepth 100000 in
theorem c_X5_findK {l : Launch} {Γ : zΓ} {G : zH} {w : Nat} {kd k : Int} (hX : zXs Γ) (hk : 0 ≤ kd ∧ kd ≤ 3) : zMet l Γ yX5_find cX5_find 4 (some .int) 0 [zr 6 w, zi kd, zi k] G (zpi (fun x G' => G' = G ∧ (x = fndn (G.1 2036 (Γ.2.1 w 1)) (kd * 5) k (G.1 2037 (Γ.2.1 w 2) kd.toNat).toNat 0))) := by
  refine zMet_of RX5 hX (by decide) rfl (Nat.le_of_ble_eq_true rfl) ?_
  intro p e s m args below meth c C hr hlk
  show Z p l e (zrm 0) s m args below meth c Γ 4 0 0 (MQ below (zQc Γ (zpi (fun x G' => G' = G ∧ (x = fndn (G.1 2036 (Γ.2.1 w 1)) (kd * 5) k (G.1 2037 (Γ.2.1 w 2) kd.toNat).toNat 0)))) args s 0 0 (zA Γ)) 0 [some (zr 6 w), some (zi kd), some (zi k), none] [] G
  refine zs_loc 1 rfl (fun ha1 hb1 => ?_)
  refine zs_loc 2 rfl (fun ha2 hb2 => ?_)
  refine zs_iconst (pc := 0) C dX5_find_0 (by decide) ?_
  refine zs_istore_n (pc := 1) C dX5_find_1 (by decide) ?_
  dsimp only [zset, zclr, znone]
  have L2 : ∀ (nn : Nat) (x3 : Int), (0 ≤ x3 ∧ x3 ≤ 5) → (fndn (G.1 2036 (Γ.2.1 w 1)) (kd * 5) k (G.1 2037 (Γ.2.1 w 2) kd.toNat - x3).toNat x3 = fndn (G.1 2036 (Γ.2.1 w 1)) (kd * 5) k (G.1 2037 (Γ.2.1 w 2) kd.toNat).toNat 0) → (5 - x3).toNat < nn → Z p l e (zrm 0) s m args below meth c Γ 4 0 0 (MQ below (zQc Γ (zpi (fun x G' => G' = G ∧ (x = fndn (G.1 2036 (Γ.2.1 w 1)) (kd * 5) k (G.1 2037 (Γ.2.1 w 2) kd.toNat).toNat 0)))) args s 0 0 (zA Γ)) 2 [some (zr 6 w), some (zi kd), some (zi k), some (zi x3)] [] G := by
    intro nn
    induction nn with
    | zero => intro x3 h2_0 h2_1 hm; exact absurd hm (Nat.not_lt_zero _)
    | succ nn ih2 =>
      intro x3 h2_0 h2_1 hm2
      refine zs_iload_n (pc := 2) C dX5_find_2 rfl ?_
      refine zs_aload_n (pc := 3) C dX5_find_3 rfl ?_
      refine zs_getf (pc := 4) C dX5_find_4 w_X5_22 f_6_2 (by decide) ?_
      refine zs_iload_n (pc := 7) C dX5_find_7 rfl ?_
      refine zs_iald (r := 2037) (pc := 8) C dX5_find_8 a_37 (by decide) (by omega) rfl rfl (fun v8 e8 l8 u8 => ?_)
      have hs := rs_2037 kd.toNat
      refine zs_icmp_ge (tgt := 34) (pc := 9) C dX5_find_9 (by decide) (fun h9 => ?_) (fun h9 => ?_)
      · skip
        refine zs_iconst (pc := 34) C dX5_find_34 (by decide) ?_
        exact zs_iret (pc := 35) C hr hlk dX5_find_35 ⟨rfl, by rw [← h2_1, fnd_e (by omega)]⟩
      · skip
        refine zs_aload_n (pc := 12) C dX5_find_12 rfl ?_
        refine zs_getf (pc := 13) C dX5_find_13 w_X5_18 f_6_1 (by decide) ?_
        refine zs_iload_n (pc := 16) C dX5_find_16 rfl ?_
        refine zs_iconst (pc := 17) C dX5_find_17 (by decide) ?_
        first | refine zs_imul (pc := 18) C dX5_find_18 (by omega) ?_ | refine zs_imulF (pc := 18) C dX5_find_18 (fun z18 hz181 hz182 => ?_)
        refine zs_iload_n (pc := 19) C dX5_find_19 rfl ?_
        first | refine zs_iadd (pc := 20) C dX5_find_20 (by omega) ?_ | refine zs_iaddF (pc := 20) C dX5_find_20 (fun z20 hz201 hz202 => ?_)
        refine zs_iald (r := 2036) (pc := 21) C dX5_find_21 a_36 (by decide) (by omega) rfl (r_2036 _) (fun v21 e21 l21 u21 => ?_)
        refine zs_iload_n (pc := 22) C dX5_find_22 rfl ?_
        refine zs_icmp_ne (tgt := 28) (pc := 23) C dX5_find_23 (by decide) (fun h23 => ?_) (fun h23 => ?_)
        · skip
          first | refine zs_iinc (pc := 28) C dX5_find_28 rfl (by decide) (by omega) ?_ | refine zs_iincF (pc := 28) C dX5_find_28 rfl (by decide) (fun z28 hz281 hz282 => ?_)
          dsimp only [zset, zclr, znone]
          refine zs_goto (tgt := 2) (pc := 31) C dX5_find_31 (by decide) ?_
          exact zs_wk (ih2 _ (by omega) (by have q := h2_1; rw [fnd_s (by omega), if_neg (by omega)] at q; exact q) (by first | omega | (simp only [zuI_1, zuI_2, zuJ_1, zuJ_2, zuJ_3, zuP_1, zuP_2, zuP_3, zuC_1, zuC_2, reduceIte, Nat.reduceEqDiff, false_and, and_false, true_and, and_true, and_self, or_true, true_or, or_false, false_or]; omega))) (zwk_s rfl (zwk_s rfl (zwk_s rfl (zwk_s rfl zwk_0))))
        · skip
          refine zs_iload_n (pc := 26) C dX5_find_26 rfl ?_
          exact zs_iret (pc := 27) C hr hlk dX5_find_27 ⟨rfl, by rw [← h2_1, fnd_s (by omega), if_pos (by omega)]⟩
  exact zs_wk (L2 _ _ (by omega) (by rw [Int.sub_zero]) (Nat.lt_succ_self _)) (zwk_s rfl (zwk_s rfl (zwk_s rfl (zwk_s rfl zwk_0))))

set_option maxHeartbeats 4000000 in
set_option maxRecDepth 100000 in
theorem c_X8_namedK {l : Launch} {Γ : zΓ} {G : zH} {w : Nat} {a b : Int} (hX : zXs Γ)  : zMet l Γ yX8_named cX8_named 3 (some .int) 1 [zr 9 w, zi a, zi b] G (zpi (fun x G' => G' = G ∧ ((0 ≤ a ∧ a ≤ 3 → x = fndn (G.1 2036 (Γ.2.1 (G.2.2 903 w) 1)) (a * 5) b (G.1 2037 (Γ.2.1 (G.2.2 903 w) 2) a.toNat).toNat 0) ∧ (¬ (0 ≤ a ∧ a ≤ 3) → x = -1)))) := by
  refine zMet_of RX8 hX (by decide) rfl (Nat.le_of_ble_eq_true rfl) ?_
  intro p e s m args below meth c C hr hlk
  show Z p l e (zrm 1) s m args below meth c Γ 3 0 0 (MQ below (zQc Γ (zpi (fun x G' => G' = G ∧ ((0 ≤ a ∧ a ≤ 3 → x = fndn (G.1 2036 (Γ.2.1 (G.2.2 903 w) 1)) (a * 5) b (G.1 2037 (Γ.2.1 (G.2.2 903 w) 2) a.toNat).toNat 0) ∧ (¬ (0 ≤ a ∧ a ≤ 3) → x = -1))))) args s 0 0 (zA Γ)) 0 [some (zr 9 w), some (zi a), some (zi b)] [] G
  refine zs_loc 1 rfl (fun ha1 hb1 => ?_)
  refine zs_loc 2 rfl (fun ha2 hb2 => ?_)
  refine zs_iload_n (pc := 0) C dX8_named_0 rfl ?_
  refine zs_if_lt (tgt := 9) (pc := 1) C dX8_named_1 (by decide) (fun h1 => ?_) (fun h1 => ?_)
  · skip
    refine zs_iconst (pc := 9) C dX8_named_9 (by decide) ?_
    refine zs_goto (tgt := 22) (pc := 10) C dX8_named_10 (by decide) ?_
    exact zs_iret (pc := 22) C hr hlk dX8_named_22 ⟨rfl, (by first | exact ⟨fun q => by omega, fun _ => rfl⟩ | exact ⟨fun _ => hq19, fun q => absurd ⟨by omega, by omega⟩ q⟩)⟩
  · skip
    refine zs_iload_n (pc := 4) C dX8_named_4 rfl ?_
    refine zs_iconst (pc := 5) C dX8_named_5 (by decide) ?_
    refine zs_icmp_lt (tgt := 13) (pc := 6) C dX8_named_6 (by decide) (fun h6 => ?_) (fun h6 => ?_)
    · skip
      refine zs_aload_n (pc := 13) C dX8_named_13 rfl ?_
      refine zs_getd (r := 903) (pc := 14) C dX8_named_14 w_X8_25 f_9_3 (by decide) rfl (fun v14 e14 t14 => ?_)
      subst e14
      refine zs_iload_n (pc := 17) C dX8_named_17 rfl ?_
      refine zs_iload_n (pc := 18) C dX8_named_18 rfl ?_
      refine zVip2 (pc := 19) C dX8_named_19 v_X8_100 (c_X5_findK hX (by omega)) (by decide) (by decide) ⟨Nat.zero_le _, Nat.zero_le _⟩ (Nat.le_of_ble_eq_true rfl) (fun x19 l19 u19 hp19 => ?_)
      have hq19 := hp19
      exact zs_iret (pc := 22) C hr hlk dX8_named_22 ⟨rfl, (by first | exact ⟨fun q => by omega, fun _ => rfl⟩ | exact ⟨fun _ => hq19, fun q => absurd ⟨by omega, by omega⟩ q⟩)⟩
    · skip
      refine zs_iconst (pc := 9) C dX8_named_9 (by decide) ?_
      refine zs_goto (tgt := 22) (pc := 10) C dX8_named_10 (by decide) ?_
      exact zs_iret (pc := 22) C hr hlk dX8_named_22 ⟨rfl, (by first | exact ⟨fun q => by omega, fun _ => rfl⟩ | exact ⟨fun _ => hq19, fun q => absurd ⟨by omega, by omega⟩ q⟩)⟩

