theorem rf_m {G G1 : zH} {rs : List Nat} {r a b : Nat} (hs : zsm rs G G1) (h : G.2.2 r a = b) : G1.2.2 r a = b := by rw [hs.2]; exact h
/-- something more can be undone -/
def rmG (w : Nat) (us us' : Nat → Int) (x : Int) (G G' : zH) : Prop := (G.1 910 w 0 < 20 → G'.1 910 w 0 = G.1 910 w 0 + 1 ∧ (∀ j : Nat, (j : Int) < G.1 910 w 0 → us' j = us j) ∧ us' (G.1 910 w 0).toNat = x) ∧ (¬ G.1 910 w 0 < 20 → G'.1 910 w 0 = 20 ∧ (∀ j : Nat, j < 19 → us' j = us (j + 1)) ∧ us' 19 = x)
/-- what can be undone stays -/
def rmN (w : Nat) (us us' : Nat → Int) (G G' : zH) : Prop := G'.1 910 w 0 = G.1 910 w 0 ∧ us' = us
theorem zcp_1 {G : zH} {r0 a0 r1 a1 j : Nat} (h : j < 19) : zcp G r0 a0 r1 a1 (1 : Int).toNat (0 : Int).toNat (19 : Int).toNat j = G.1 r0 a0 (j + 1) := by
  show (if 0 ≤ j ∧ j < 0 + 19 then G.1 r0 a0 (1 + (j - 0)) else G.1 r1 a1 j) = _
  rw [if_pos (by omega), show 1 + (j - 0) = j + 1 by omega]
theorem rmG_z {w a9 : Nat} {us' : Nat → Int} {x : Int} {G G1 G' : zH} {rs : List Nat} (hz : zsm rs G G1) (hr : 910 ∉ rs ∧ 2056 ∉ rs) (h : rmG w (G1.1 2056 a9) us' x G1 G') : rmG w (G.1 2056 a9) us' x G G' := by
  unfold rmG at *
  rw [hz.1 910 hr.1, hz.1 2056 hr.2] at h
  exact h
theorem rmN_z {w a9 : Nat} {G G1 : zH} {rs : List Nat} (hz : zsm rs G G1) (hr : 910 ∉ rs ∧ 2056 ∉ rs) : rmN w (G.1 2056 a9) (G1.1 2056 a9) G G1 := ⟨by rw [hz.1 910 hr.1], by rw [hz.1 2056 hr.2]⟩
theorem wAsk_0 {A W : aS} {p : Int} {f j : Nat} (hf : f ≠ 21) : (wAsk A W p) f j = W f j := by
  unfold wAsk
  (repeat' split) <;> exact up_f hf
theorem bk_n {Γ : zΓ} {w t : Nat} {A W : aS} {G : zH} {c : Int} (h : ¬ wCanB A W c) (hZ : QQ Γ w t A (wBake A W c) G) : QQ Γ w t A W G := by
  unfold wBake at hZ
  rw [if_neg h] at hZ
  exact hZ
theorem rmN_o {w a9 : Nat} {us : Nat → Int} {G G1 G2 : zH} {rs : List Nat} (h : rmN w us (G1.1 2056 a9) G G1) (hz : zsm rs G1 G2) (hr : 910 ∉ rs ∧ 2056 ∉ rs) : rmN w us (G2.1 2056 a9) G G2 := ⟨by rw [hz.1 910 hr.1]; exact h.1, by rw [hz.1 2056 hr.2]; exact h.2⟩
theorem QQ_910 {Γ : zΓ} {w t a i : Nat} {A W : aS} {G : zH} {x : Int} (h : QQ Γ w t A W G) : QQ Γ w t A W (zuI G 910 a i x) := QQ_sm (rs := [910]) (zsm_I (by simp) zsm_rf) (by decide) (by decide +kernel) h
theorem wCan_ask {A W : aS} {p : Int} : wCan (wAsk A W p) ↔ wCan W := by
  have e : ∀ f j, f ≠ 21 → (wAsk A W p) f j = W f j := fun f j hf => by
    unfold wAsk
    (repeat' split) <;> exact up_f hf
  unfold wCan
  rw [e 19 0 (by decide), e 0 0 (by decide)]
theorem wWorst_in {A : aS} {F : Nat → Int} {p : Int} : ∀ m : Nat, wWorst A F p m = -1 ∨ (0 ≤ wWorst A F p m ∧ wWorst A F p m < m)
  | 0 => Or.inl rfl
  | m + 1 => by
    have h := wWorst_in (A := A) (F := F) (p := p) m
    rw [wWorst]
    split <;> omega
theorem wFind_in {F : Nat → Int} {p a : Int} : ∀ m : Nat, wFind F p a m = -1 ∨ (0 ≤ wFind F p a m ∧ wFind F p a m < m)
  | 0 => Or.inl rfl
  | m + 1 => by
    have h := wFind_in (F := F) (p := p) (a := a) m
    rw [wFind]
    (repeat' split) <;> omega
theorem wAskV_in {A W : aS} {p : Int} (h0 : 0 ≤ A 4 0) : wAskV A W p = -1 ∨ (0 ≤ wAskV A W p ∧ wAskV A W p < A 4 0) := by
  have h1 := wWorst_in (A := A) (F := W 12) (p := p) (A 4 0).toNat
  have h2 := wFind_in (F := W 12) (p := p) (a := wNext (wD1 W) / 65536 % wFree (W 12) p (A 4 0).toNat) (A 4 0).toNat
  unfold wAskV
  (repeat' split) <;> omega
theorem rmN_rf {w : Nat} {us : Nat → Int} {G : zH} : rmN w us us G G := ⟨rfl, rfl⟩

set_option maxHeartbeats 4000000 in
set_option maxRecDepth 100000 in
theorem c_X5_hasT {l : Launch} {Γ : zΓ} {G : zH} {t : Nat} {kd k : Int} {A : aS} (hX : zXs Γ) (hZ : TV Γ t A G) (hk : 0 ≤ kd ∧ kd ≤ 3) : zMet l Γ yX5_has cX5_has 3 (some .boolean) 0 [zr 6 t, zi kd, zi k] G (zpi (fun x G' => G' = G ∧ ((x = 0 ∨ x = 1) ∧ (x = 1 ↔ 0 ≤ k ∧ k < A 4 kd.toNat)))) := by
  refine zMet_of RX5 hX (by decide) rfl (Nat.le_of_ble_eq_true rfl) ?_
  intro p e s m args below meth c C hr hlk
  show Z p l e (zrm 0) s m args below meth c Γ 3 0 0 (MQ below (zQc Γ (zpi (fun x G' => G' = G ∧ ((x = 0 ∨ x = 1) ∧ (x = 1 ↔ 0 ≤ k ∧ k < A 4 kd.toNat))))) args s 0 0 (zA Γ)) 0 [some (zr 6 t), some (zi kd), some (zi k)] [] G
  refine zs_loc 1 rfl (fun ha1 hb1 => ?_)
  refine zs_loc 2 rfl (fun ha2 hb2 => ?_)
  refine zs_iload_n (pc := 0) C dX5_has_0 rfl ?_
  refine zs_if_lt (tgt := 18) (pc := 1) C dX5_has_1 (by decide) (fun h1 => ?_) (fun h1 => ?_)
  · skip
    refine zs_iconst (pc := 18) C dX5_has_18 (by decide) ?_
    exact zs_zret (pc := 19) C hr hlk dX5_has_19 (by omega) ⟨rfl, (by refine ⟨by omega, ?_⟩; constructor <;> intro hq <;> omega)⟩
  · skip
    refine zs_iload_n (pc := 4) C dX5_has_4 rfl ?_
    refine zs_aload_n (pc := 5) C dX5_has_5 rfl ?_
    refine zs_getf (pc := 6) C dX5_has_6 w_X5_22 f_6_2 (by decide) ?_
    refine zs_iload_n (pc := 9) C dX5_has_9 rfl ?_
    refine zs_iald (r := 2037) (pc := 10) C dX5_has_10 a_37 (by decide) (by omega) rfl rfl (fun v10 e10 l10 u10 => ?_)
    try simp only [TV_2037 hZ] at e10
    try subst v10
    have hs := rs_2037 kd.toNat
    refine zs_icmp_ge (tgt := 18) (pc := 11) C dX5_has_11 (by decide) (fun h11 => ?_) (fun h11 => ?_)
    · skip
      refine zs_iconst (pc := 18) C dX5_has_18 (by decide) ?_
      exact zs_zret (pc := 19) C hr hlk dX5_has_19 (by omega) ⟨rfl, (by refine ⟨by omega, ?_⟩; constructor <;> intro hq <;> omega)⟩
    · skip
      refine zs_iconst (pc := 14) C dX5_has_14 (by decide) ?_
      refine zs_goto (tgt := 19) (pc := 15) C dX5_has_15 (by decide) ?_
      exact zs_zret (pc := 19) C hr hlk dX5_has_19 (by omega) ⟨rfl, (by refine ⟨by omega, ?_⟩; constructor <;> intro hq <;> omega)⟩

set_option maxHeartbeats 4000000 in
set_option maxRecDepth 100000 in
theorem c_X5_hasBothT {l : Launch} {Γ : zΓ} {G : zH} {t : Nat} {p s : Int} {A : aS} (hX : zXs Γ) (hZ : TV Γ t A G) : zMet l Γ yX5_hasBoth cX5_hasBoth 3 (some .boolean) 1 [zr 6 t, zi p, zi s] G (zpi (fun x G' => G' = G ∧ ((x = 0 ∨ x = 1) ∧ (x = 1 ↔ ((0 ≤ p ∧ p < A 4 1) ∧ (0 ≤ s ∧ s < A 4 0)))))) := by
  refine zMet_of RX5 hX (by decide) rfl (Nat.le_of_ble_eq_true rfl) ?_
  intro px9 e sx9 m args below meth c C hr hlk
  show Z px9 l e (zrm 1) sx9 m args below meth c Γ 3 0 0 (MQ below (zQc Γ (zpi (fun x G' => G' = G ∧ ((x = 0 ∨ x = 1) ∧ (x = 1 ↔ ((0 ≤ p ∧ p < A 4 1) ∧ (0 ≤ s ∧ s < A 4 0))))))) args sx9 0 0 (zA Γ)) 0 [some (zr 6 t), some (zi p), some (zi s)] [] G
  refine zs_loc 1 rfl (fun ha1 hb1 => ?_)
  refine zs_loc 2 rfl (fun ha2 hb2 => ?_)
  refine zs_aload_n (pc := 0) C dX5_hasBoth_0 rfl ?_
  refine zs_iconst (pc := 1) C dX5_hasBoth_1 (by decide) ?_
  refine zs_iload_n (pc := 2) C dX5_hasBoth_2 rfl ?_
  refine zVip2 (pc := 3) C dX5_hasBoth_3 v_X5_65 (c_X5_hasT hX hZ (by omega)) (by decide) (by decide) ⟨Nat.zero_le _, Nat.zero_le _⟩ (Nat.le_of_ble_eq_true rfl) (fun x3 l3 u3 hp3 => ?_)
  have hq3 := hp3
  have hr3 : x3 = 1 ↔ 0 ≤ p ∧ p < A 4 1 := hq3.2
  have hs3 := hq3.1
  refine zs_if_eq (tgt := 22) (pc := 6) C dX5_hasBoth_6 (by decide) (fun h6 => ?_) (fun h6 => ?_)
  · skip
    refine zs_iconst (pc := 22) C dX5_hasBoth_22 (by decide) ?_
    exact zs_zret (pc := 23) C hr hlk dX5_hasBoth_23 (by omega) ⟨rfl, (by refine ⟨by omega, ?_⟩; constructor <;> intro hq <;> omega)⟩
  · skip
    refine zs_aload_n (pc := 9) C dX5_hasBoth_9 rfl ?_
    refine zs_iconst (pc := 10) C dX5_hasBoth_10 (by decide) ?_
    refine zs_iload_n (pc := 11) C dX5_hasBoth_11 rfl ?_
    refine zVip2 (pc := 12) C dX5_hasBoth_12 v_X5_65 (c_X5_hasT hX hZ (by omega)) (by decide) (by decide) ⟨Nat.zero_le _, Nat.zero_le _⟩ (Nat.le_of_ble_eq_true rfl) (fun x12 l12 u12 hp12 => ?_)
    have hq12 := hp12
    have hr12 : x12 = 1 ↔ 0 ≤ s ∧ s < A 4 0 := hq12.2
    have hs12 := hq12.1
    refine zs_if_eq (tgt := 22) (pc := 15) C dX5_hasBoth_15 (by decide) (fun h15 => ?_) (fun h15 => ?_)
    · skip
      refine zs_iconst (pc := 22) C dX5_hasBoth_22 (by decide) ?_
      exact zs_zret (pc := 23) C hr hlk dX5_hasBoth_23 (by omega) ⟨rfl, (by refine ⟨by omega, ?_⟩; constructor <;> intro hq <;> omega)⟩
    · skip
      refine zs_iconst (pc := 18) C dX5_hasBoth_18 (by decide) ?_
      refine zs_goto (tgt := 23) (pc := 19) C dX5_hasBoth_19 (by decide) ?_
      exact zs_zret (pc := 23) C hr hlk dX5_hasBoth_23 (by omega) ⟨rfl, (by refine ⟨by omega, ?_⟩; constructor <;> intro hq <;> omega)⟩

set_option maxHeartbeats 4000000 in
set_option maxRecDepth 100000 in
theorem c_X8_didK {l : Launch} {Γ : zΓ} {G : zH} {w t : Nat} {A W : aS} {p s k : Int} (hX : zXs Γ) (hZ : QQ Γ (Γ.2.1 w 4) t A W G) (hI : G.2.2 903 w = t) (hT : TA A)  : zMet l Γ yX8_did cX8_did 4 (some .int) 2 [zr 9 w, zi p, zi s, zi k] G (zpi (fun x G' => G' = G ∧ (x = (if ((0 ≤ p ∧ p < A 4 1) ∧ (0 ≤ s ∧ s < A 4 0)) then (if k = 0 then W 11 (p * 4 + s).toNat else if k = 1 then wL W p s else -1) else -1)))) := by
  refine zMet_of RX8 hX (by decide) rfl (Nat.le_of_ble_eq_true rfl) ?_
  intro px9 e sx9 m args below meth c C hr hlk
  show Z px9 l e (zrm 2) sx9 m args below meth c Γ 4 0 0 (MQ below (zQc Γ (zpi (fun x G' => G' = G ∧ (x = (if ((0 ≤ p ∧ p < A 4 1) ∧ (0 ≤ s ∧ s < A 4 0)) then (if k = 0 then W 11 (p * 4 + s).toNat else if k = 1 then wL W p s else -1) else -1))))) args sx9 0 0 (zA Γ)) 0 [some (zr 9 w), some (zi p), some (zi s), some (zi k)] [] G
  refine zs_loc 1 rfl (fun ha1 hb1 => ?_)
  refine zs_loc 2 rfl (fun ha2 hb2 => ?_)
  refine zs_loc 3 rfl (fun ha3 hb3 => ?_)
  have hT0 := hT.1
  refine zs_aload_n (pc := 0) C dX8_did_0 rfl ?_
  refine zs_getd (r := 903) (pc := 1) C dX8_did_1 w_X8_25 f_9_3 (by decide) rfl (fun v1 e1 t1 => ?_)
  rw [hI] at e1
  subst v1
  refine zs_iload_n (pc := 4) C dX8_did_4 rfl ?_
  refine zs_iload_n (pc := 5) C dX8_did_5 rfl ?_
  refine zVip2 (pc := 6) C dX8_did_6 v_X8_136 (c_X5_hasBothT hX hZ.2.1) (by decide) (by decide) ⟨Nat.zero_le _, Nat.zero_le _⟩ (Nat.le_of_ble_eq_true rfl) (fun x6 l6 u6 hp6 => ?_)
  have hq6 := hp6
  have hb6 : x6 = 1 ↔ ((0 ≤ p ∧ p < A 4 1) ∧ (0 ≤ s ∧ s < A 4 0)) := hq6.2
  have hc6 := hq6.1
  refine zs_if_ne (tgt := 14) (pc := 9) C dX8_did_9 (by decide) (fun h9 => ?_) (fun h9 => ?_)
  · skip
    refine zs_iload_n (pc := 14) C dX8_did_14 rfl ?_
    refine zs_name (fun y15 ey15 => ?_)
    rcases (show y15 = 0 ∨ y15 = 1 ∨ (y15 ≠ 0 ∧ y15 ≠ 1) by omega) with h15 | h15 | h15
    · skip
      refine zs_look (tgt := 40) (pc := 15) C dX8_did_15 (by decide) (by first | (rw [h15]; done) | (rw [h15]; rfl)) (by decide) ?_
      refine zs_aload_n (pc := 40) C dX8_did_40 rfl ?_
      refine zs_getf (pc := 41) C dX8_did_41 w_X8_34 f_9_4 (by decide) ?_
      refine zs_getf (pc := 44) C dX8_did_44 w_X8_139 f_8_2 (by decide) ?_
      refine zs_iload_n (pc := 47) C dX8_did_47 rfl ?_
      refine zs_iconst (pc := 48) C dX8_did_48 (by decide) ?_
      first | refine zs_imul (pc := 49) C dX8_did_49 (by omega) ?_ | refine zs_imulF (pc := 49) C dX8_did_49 (fun z49 hz491 hz492 => ?_)
      refine zs_iload_n (pc := 50) C dX8_did_50 rfl ?_
      first | refine zs_iadd (pc := 51) C dX8_did_51 (by omega) ?_ | refine zs_iaddF (pc := 51) C dX8_did_51 (fun z51 hz511 hz512 => ?_)
      refine zs_iald (r := 2048) (pc := 52) C dX8_did_52 a_48 (by decide) (by omega) rfl (r_2048 _) (fun v52 e52 l52 u52 => ?_)
      try simp only [QQ_2048 hZ] at e52
      try subst v52
      exact zs_iret (pc := 53) C hr hlk dX8_did_53 ⟨rfl, (by first | (rw [if_neg (by omega)]) | (rw [if_pos (by omega)]; (repeat' split) <;> first | rfl | assumption | omega))⟩
    · skip
      refine zs_look (tgt := 54) (pc := 15) C dX8_did_15 (by decide) (by first | (rw [h15]; done) | (rw [h15]; rfl)) (by decide) ?_
      refine zs_aload_n (pc := 54) C dX8_did_54 rfl ?_
      refine zs_getf (pc := 55) C dX8_did_55 w_X8_34 f_9_4 (by decide) ?_
      refine zs_iload_n (pc := 58) C dX8_did_58 rfl ?_
      refine zs_iload_n (pc := 59) C dX8_did_59 rfl ?_
      refine zVip2 (pc := 60) C dX8_did_60 v_X8_142 (c_X7_leftOfK hX hZ (by omega) (by omega)) (by decide) (by decide) ⟨Nat.zero_le _, Nat.zero_le _⟩ (Nat.le_of_ble_eq_true rfl) (fun x60 l60 u60 hp60 => ?_)
      have hq60 := hp60
      exact zs_iret (pc := 63) C hr hlk dX8_did_63 ⟨rfl, (by first | (rw [if_neg (by omega)]) | (rw [if_pos (by omega)]; (repeat' split) <;> first | rfl | assumption | omega))⟩
    · skip
      refine zs_look (off := 49) (tgt := 64) (pc := 15) C dX8_did_15 (by decide) (by have h9 := h15; simp [Op.lookupswitch.offset]; omega) (by decide) ?_
      refine zs_iconst (pc := 64) C dX8_did_64 (by decide) ?_
      exact zs_iret (pc := 65) C hr hlk dX8_did_65 ⟨rfl, (by first | (rw [if_neg (by omega)]) | (rw [if_pos (by omega)]; (repeat' split) <;> first | rfl | assumption | omega))⟩
  · skip
    refine zs_iconst (pc := 12) C dX8_did_12 (by decide) ?_
    exact zs_iret (pc := 13) C hr hlk dX8_did_13 ⟨rfl, (by first | (rw [if_neg (by omega)]) | (rw [if_pos (by omega)]; (repeat' split) <;> first | rfl | assumption | omega))⟩

set_option maxHeartbeats 4000000 in
set_option maxRecDepth 100000 in
theorem c_X8_fineK {l : Launch} {Γ : zΓ} {G : zH} {w t : Nat} {A W : aS} {p s : Int} (hX : zXs Γ) (hZ : QQ Γ (Γ.2.1 w 4) t A W G) (hI : G.2.2 903 w = t) (hW : WI A W) (hT : TA A)  : zMet l Γ yX8_fine cX8_fine 3 (some .int) 4 [zr 9 w, zi p, zi s] G (zpi (fun x G' => zsm [] G G' ∧ (x = if ((0 ≤ p ∧ p < A 4 1) ∧ (0 ≤ s ∧ s < A 4 0)) then wFine A W p s else -1))) := by
  refine zMet_of RX8 hX (by decide) rfl (Nat.le_of_ble_eq_true rfl) ?_
  intro px9 e sx9 m args below meth c C hr hlk
  show Z px9 l e (zrm 4) sx9 m args below meth c Γ 3 0 0 (MQ below (zQc Γ (zpi (fun x G' => zsm [] G G' ∧ (x = if ((0 ≤ p ∧ p < A 4 1) ∧ (0 ≤ s ∧ s < A 4 0)) then wFine A W p s else -1)))) args sx9 0 0 (zA Γ)) 0 [some (zr 9 w), some (zi p), some (zi s)] [] G
  refine zs_loc 1 rfl (fun ha1 hb1 => ?_)
  refine zs_loc 2 rfl (fun ha2 hb2 => ?_)
  have hT0 := hT.1
  refine zs_aload_n (pc := 0) C dX8_fine_0 rfl ?_
  refine zs_getd (r := 903) (pc := 1) C dX8_fine_1 w_X8_25 f_9_3 (by decide) rfl (fun v1 e1 t1 => ?_)
  rw [hI] at e1
  subst v1
  refine zs_iload_n (pc := 4) C dX8_fine_4 rfl ?_
  refine zs_iload_n (pc := 5) C dX8_fine_5 rfl ?_
  refine zVip2 (pc := 6) C dX8_fine_6 v_X8_136 (c_X5_hasBothT hX hZ.2.1) (by decide) (by decide) ⟨Nat.zero_le _, Nat.zero_le _⟩ (Nat.le_of_ble_eq_true rfl) (fun x6 l6 u6 hp6 => ?_)
  have hq6 := hp6
  have hb6 : x6 = 1 ↔ ((0 ≤ p ∧ p < A 4 1) ∧ (0 ≤ s ∧ s < A 4 0)) := hq6.2
  have hc6 := hq6.1
  refine zs_if_eq (tgt := 24) (pc := 9) C dX8_fine_9 (by decide) (fun h9 => ?_) (fun h9 => ?_)
  · skip
    refine zs_iconst (pc := 24) C dX8_fine_24 (by decide) ?_
    exact zs_iret (pc := 25) C hr hlk dX8_fine_25 ⟨by repeat (first | exact zsm_rf | assumption | refine zsm_C (by decide) ?_ | refine zsm_I (by decide) ?_ | refine zsm_J ?_ | refine zsm_c (by assumption) (by decide) ?_), (by first | (rw [if_pos (by omega)]; exact hq18) | rw [if_neg (by omega)])⟩
  · skip
    refine zs_aload_n (pc := 12) C dX8_fine_12 rfl ?_
    refine zs_getf (pc := 13) C dX8_fine_13 w_X8_34 f_9_4 (by decide) ?_
    refine zs_iload_n (pc := 16) C dX8_fine_16 rfl ?_
    refine zs_iload_n (pc := 17) C dX8_fine_17 rfl ?_
    refine zVi2 (pc := 18) C dX8_fine_18 v_X8_145 (c_X7_fineOfK hX hZ hW hT (by omega) (by omega) (by omega)) (by decide) (by decide) ⟨Nat.zero_le _, Nat.zero_le _⟩ (Nat.le_of_ble_eq_true rfl) (fun x18 G18 l18 u18 hp18 => ?_)
    obtain ⟨hz18, hq18⟩ := hp18
    first | have hZ18 := QQ_n hz18 hZ | have hZ18 := QQ_n hz18 hZ1
    refine zs_goto (tgt := 25) (pc := 21) C dX8_fine_21 (by decide) ?_
    exact zs_iret (pc := 25) C hr hlk dX8_fine_25 ⟨by repeat (first | exact zsm_rf | assumption | refine zsm_C (by decide) ?_ | refine zsm_I (by decide) ?_ | refine zsm_J ?_ | refine zsm_c (by assumption) (by decide) ?_), (by first | (rw [if_pos (by omega)]; exact hq18) | rw [if_neg (by omega)])⟩

set_option maxHeartbeats 4000000 in
set_option maxRecDepth 100000 in
theorem c_X8_lawK {l : Launch} {Γ : zΓ} {G : zH} {w t : Nat} {A W : aS} {k p s : Int} (hX : zXs Γ) (hZ : QQ Γ (Γ.2.1 w 4) t A W G) (hI : G.2.2 903 w = t) (hW : WI A W) (hT : TA A)  : zMet l Γ yX8_law cX8_law 4 (some .long) 3 [zr 9 w, zi k, zi p, zi s] G (zpj (fun x G' => zsm [] G G' ∧ (x = (if k = 0 ∨ k = 1 then (if ((0 ≤ p ∧ p < A 4 1) ∧ (0 ≤ s ∧ s < A 4 0)) then wLaw A W k p s else -9223372036854775808) else if k = 2 then (if ((0 ≤ p ∧ p < A 4 1) ∧ (0 ≤ s ∧ s < A 4 0)) ∧ 0 < wL W p s then wLaw A W k p s else -9223372036854775808) else if k = 3 then (if (0 ≤ p ∧ p < A 4 1) ∧ (0 ≤ s ∧ s < A 4 1) ∧ p < s then wPair A W p s else -9223372036854775808) else -9223372036854775808)))) := by
  refine zMet_of RX8 hX (by decide) rfl (Nat.le_of_ble_eq_true rfl) ?_
  intro px9 e sx9 m args below meth c C hr hlk
  show Z px9 l e (zrm 3) sx9 m args below meth c Γ 4 0 0 (MQ below (zQc Γ (zpj (fun x G' => zsm [] G G' ∧ (x = (if k = 0 ∨ k = 1 then (if ((0 ≤ p ∧ p < A 4 1) ∧ (0 ≤ s ∧ s < A 4 0)) then wLaw A W k p s else -9223372036854775808) else if k = 2 then (if ((0 ≤ p ∧ p < A 4 1) ∧ (0 ≤ s ∧ s < A 4 0)) ∧ 0 < wL W p s then wLaw A W k p s else -9223372036854775808) else if k = 3 then (if (0 ≤ p ∧ p < A 4 1) ∧ (0 ≤ s ∧ s < A 4 1) ∧ p < s then wPair A W p s else -9223372036854775808) else -9223372036854775808))))) args sx9 0 0 (zA Γ)) 0 [some (zr 9 w), some (zi k), some (zi p), some (zi s)] [] G
  refine zs_loc 1 rfl (fun ha1 hb1 => ?_)
  refine zs_loc 2 rfl (fun ha2 hb2 => ?_)
  refine zs_loc 3 rfl (fun ha3 hb3 => ?_)
  have hT0 := hT.1
  refine zs_iload_n (pc := 0) C dX8_law_0 rfl ?_
  refine zs_name (fun y1 ey1 => ?_)
  rcases (show y1 = 0 ∨ y1 = 1 ∨ y1 = 2 ∨ y1 = 3 ∨ (y1 < 0 ∨ 3 < y1) by omega) with h1 | h1 | h1 | h1 | h1
  · skip
    refine zs_tabIn (pc := 1) (tgt := 32) C 0 dX8_law_1 h1 (by decide) rfl (by decide) ?_
    refine zs_aload_n (pc := 32) C dX8_law_32 rfl ?_
    refine zs_getd (r := 903) (pc := 33) C dX8_law_33 w_X8_25 f_9_3 (by decide) rfl (fun v33 e33 t33 => ?_)
    rw [hI] at e33
    subst v33
    refine zs_iload_n (pc := 36) C dX8_law_36 rfl ?_
    refine zs_iload_n (pc := 37) C dX8_law_37 rfl ?_
    refine zVip2 (pc := 38) C dX8_law_38 v_X8_136 (c_X5_hasBothT hX hZ.2.1) (by decide) (by decide) ⟨Nat.zero_le _, Nat.zero_le _⟩ (Nat.le_of_ble_eq_true rfl) (fun x38 l38 u38 hp38 => ?_)
    have hq38 := hp38
    have hb38 : x38 = 1 ↔ ((0 ≤ p ∧ p < A 4 1) ∧ (0 ≤ s ∧ s < A 4 0)) := hq38.2
    have hc38 := hq38.1
    refine zs_if_eq (tgt := 57) (pc := 41) C dX8_law_41 (by decide) (fun h41 => ?_) (fun h41 => ?_)
    · skip
      refine zs_ldc2 (n := -9223372036854775808) (pc := 57) C dX8_law_57 q_X8_152 (by decide) (by decide) ?_
      exact zs_lret (pc := 60) C hr hlk dX8_law_60 ⟨by repeat (first | exact zsm_rf | assumption | refine zsm_C (by decide) ?_ | refine zsm_I (by decide) ?_ | refine zsm_J ?_ | refine zsm_c (by assumption) (by decide) ?_), (by first | (rw [if_pos (show k = 0 ∨ k = 1 by omega)]; first | (rw [if_pos (by omega)]; exact hq51) | rw [if_neg (by omega)]) | (rw [if_neg (show ¬ (k = 0 ∨ k = 1) by omega)]; first | (rw [if_pos (show k = 2 by omega)]; first | (rw [if_pos (by omega)]; exact hq92) | rw [if_neg (by omega)]) | (rw [if_neg (show ¬ k = 2 by omega)]; first | (rw [if_pos (show k = 3 by omega)]; first | (rw [if_pos (by omega)]; exact hq137) | rw [if_neg (by omega)]) | rw [if_neg (show ¬ k = 3 by omega)])))⟩
    · skip
      refine zs_aload_n (pc := 44) C dX8_law_44 rfl ?_
      refine zs_getf (pc := 45) C dX8_law_45 w_X8_34 f_9_4 (by decide) ?_
      refine zs_iload_n (pc := 48) C dX8_law_48 rfl ?_
      refine zs_iload_n (pc := 49) C dX8_law_49 rfl ?_
      refine zs_iload_n (pc := 50) C dX8_law_50 rfl ?_
      refine zVj3 (pc := 51) C dX8_law_51 v_X8_148 (c_X7_valueOfK hX hZ hW hT (by omega) (by omega) (by omega) (by omega)) (by decide) (by decide) ⟨Nat.zero_le _, Nat.zero_le _⟩ (Nat.le_of_ble_eq_true rfl) (fun x51 G51 l51 u51 hp51 => ?_)
      obtain ⟨hz51, hq51⟩ := hp51
      first | have hZ51 := QQ_n hz51 hZ | have hZ51 := QQ_n hz51 hZ1
      refine zs_goto (tgt := 60) (pc := 54) C dX8_law_54 (by decide) ?_
      exact zs_lret (pc := 60) C hr hlk dX8_law_60 ⟨by repeat (first | exact zsm_rf | assumption | refine zsm_C (by decide) ?_ | refine zsm_I (by decide) ?_ | refine zsm_J ?_ | refine zsm_c (by assumption) (by decide) ?_), (by first | (rw [if_pos (show k = 0 ∨ k = 1 by omega)]; first | (rw [if_pos (by omega)]; exact hq51) | rw [if_neg (by omega)]) | (rw [if_neg (show ¬ (k = 0 ∨ k = 1) by omega)]; first | (rw [if_pos (show k = 2 by omega)]; first | (rw [if_pos (by omega)]; exact hq92) | rw [if_neg (by omega)]) | (rw [if_neg (show ¬ k = 2 by omega)]; first | (rw [if_pos (show k = 3 by omega)]; first | (rw [if_pos (by omega)]; exact hq137) | rw [if_neg (by omega)]) | rw [if_neg (show ¬ k = 3 by omega)])))⟩
  · skip
    refine zs_tabIn (pc := 1) (tgt := 32) C 1 dX8_law_1 h1 (by decide) rfl (by decide) ?_
    refine zs_aload_n (pc := 32) C dX8_law_32 rfl ?_
    refine zs_getd (r := 903) (pc := 33) C dX8_law_33 w_X8_25 f_9_3 (by decide) rfl (fun v33 e33 t33 => ?_)
    rw [hI] at e33
    subst v33
    refine zs_iload_n (pc := 36) C dX8_law_36 rfl ?_
    refine zs_iload_n (pc := 37) C dX8_law_37 rfl ?_
    refine zVip2 (pc := 38) C dX8_law_38 v_X8_136 (c_X5_hasBothT hX hZ.2.1) (by decide) (by decide) ⟨Nat.zero_le _, Nat.zero_le _⟩ (Nat.le_of_ble_eq_true rfl) (fun x38 l38 u38 hp38 => ?_)
    have hq38 := hp38
    have hb38 : x38 = 1 ↔ ((0 ≤ p ∧ p < A 4 1) ∧ (0 ≤ s ∧ s < A 4 0)) := hq38.2
    have hc38 := hq38.1
    refine zs_if_eq (tgt := 57) (pc := 41) C dX8_law_41 (by decide) (fun h41 => ?_) (fun h41 => ?_)
    · skip
      refine zs_ldc2 (n := -9223372036854775808) (pc := 57) C dX8_law_57 q_X8_152 (by decide) (by decide) ?_
      exact zs_lret (pc := 60) C hr hlk dX8_law_60 ⟨by repeat (first | exact zsm_rf | assumption | refine zsm_C (by decide) ?_ | refine zsm_I (by decide) ?_ | refine zsm_J ?_ | refine zsm_c (by assumption) (by decide) ?_), (by first | (rw [if_pos (show k = 0 ∨ k = 1 by omega)]; first | (rw [if_pos (by omega)]; exact hq51) | rw [if_neg (by omega)]) | (rw [if_neg (show ¬ (k = 0 ∨ k = 1) by omega)]; first | (rw [if_pos (show k = 2 by omega)]; first | (rw [if_pos (by omega)]; exact hq92) | rw [if_neg (by omega)]) | (rw [if_neg (show ¬ k = 2 by omega)]; first | (rw [if_pos (show k = 3 by omega)]; first | (rw [if_pos (by omega)]; exact hq137) | rw [if_neg (by omega)]) | rw [if_neg (show ¬ k = 3 by omega)])))⟩
    · skip
      refine zs_aload_n (pc := 44) C dX8_law_44 rfl ?_
      refine zs_getf (pc := 45) C dX8_law_45 w_X8_34 f_9_4 (by decide) ?_
      refine zs_iload_n (pc := 48) C dX8_law_48 rfl ?_
      refine zs_iload_n (pc := 49) C dX8_law_49 rfl ?_
      refine zs_iload_n (pc := 50) C dX8_law_50 rfl ?_
      refine zVj3 (pc := 51) C dX8_law_51 v_X8_148 (c_X7_valueOfK hX hZ hW hT (by omega) (by omega) (by omega) (by omega)) (by decide) (by decide) ⟨Nat.zero_le _, Nat.zero_le _⟩ (Nat.le_of_ble_eq_true rfl) (fun x51 G51 l51 u51 hp51 => ?_)
      obtain ⟨hz51, hq51⟩ := hp51
      first | have hZ51 := QQ_n hz51 hZ | have hZ51 := QQ_n hz51 hZ1
      refine zs_goto (tgt := 60) (pc := 54) C dX8_law_54 (by decide) ?_
      exact zs_lret (pc := 60) C hr hlk dX8_law_60 ⟨by repeat (first | exact zsm_rf | assumption | refine zsm_C (by decide) ?_ | refine zsm_I (by decide) ?_ | refine zsm_J ?_ | refine zsm_c (by assumption) (by decide) ?_), (by first | (rw [if_pos (show k = 0 ∨ k = 1 by omega)]; first | (rw [if_pos (by omega)]; exact hq51) | rw [if_neg (by omega)]) | (rw [if_neg (show ¬ (k = 0 ∨ k = 1) by omega)]; first | (rw [if_pos (show k = 2 by omega)]; first | (rw [if_pos (by omega)]; exact hq92) | rw [if_neg (by omega)]) | (rw [if_neg (show ¬ k = 2 by omega)]; first | (rw [if_pos (show k = 3 by omega)]; first | (rw [if_pos (by omega)]; exact hq137) | rw [if_neg (by omega)]) | rw [if_neg (show ¬ k = 3 by omega)])))⟩
  · skip
    refine zs_tabIn (pc := 1) (tgt := 61) C 2 dX8_law_1 h1 (by decide) rfl (by decide) ?_
    refine zs_aload_n (pc := 61) C dX8_law_61 rfl ?_
    refine zs_getd (r := 903) (pc := 62) C dX8_law_62 w_X8_25 f_9_3 (by decide) rfl (fun v62 e62 t62 => ?_)
    rw [hI] at e62
    subst v62
    refine zs_iload_n (pc := 65) C dX8_law_65 rfl ?_
    refine zs_iload_n (pc := 66) C dX8_law_66 rfl ?_
    refine zVip2 (pc := 67) C dX8_law_67 v_X8_136 (c_X5_hasBothT hX hZ.2.1) (by decide) (by decide) ⟨Nat.zero_le _, Nat.zero_le _⟩ (Nat.le_of_ble_eq_true rfl) (fun x67 l67 u67 hp67 => ?_)
    have hq67 := hp67
    have hb67 : x67 = 1 ↔ ((0 ≤ p ∧ p < A 4 1) ∧ (0 ≤ s ∧ s < A 4 0)) := hq67.2
    have hc67 := hq67.1
    refine zs_if_eq (tgt := 98) (pc := 70) C dX8_law_70 (by decide) (fun h70 => ?_) (fun h70 => ?_)
    · skip
      refine zs_ldc2 (n := -9223372036854775808) (pc := 98) C dX8_law_98 q_X8_152 (by decide) (by decide) ?_
      exact zs_lret (pc := 101) C hr hlk dX8_law_101 ⟨by repeat (first | exact zsm_rf | assumption | refine zsm_C (by decide) ?_ | refine zsm_I (by decide) ?_ | refine zsm_J ?_ | refine zsm_c (by assumption) (by decide) ?_), (by first | (rw [if_pos (show k = 0 ∨ k = 1 by omega)]; first | (rw [if_pos (by omega)]; exact hq51) | rw [if_neg (by omega)]) | (rw [if_neg (show ¬ (k = 0 ∨ k = 1) by omega)]; first | (rw [if_pos (show k = 2 by omega)]; first | (rw [if_pos (by omega)]; exact hq92) | rw [if_neg (by omega)]) | (rw [if_neg (show ¬ k = 2 by omega)]; first | (rw [if_pos (show k = 3 by omega)]; first | (rw [if_pos (by omega)]; exact hq137) | rw [if_neg (by omega)]) | rw [if_neg (show ¬ k = 3 by omega)])))⟩
    · skip
      refine zs_aload_n (pc := 73) C dX8_law_73 rfl ?_
      refine zs_getf (pc := 74) C dX8_law_74 w_X8_34 f_9_4 (by decide) ?_
      refine zs_iload_n (pc := 77) C dX8_law_77 rfl ?_
      refine zs_iload_n (pc := 78) C dX8_law_78 rfl ?_
      refine zVip2 (pc := 79) C dX8_law_79 v_X8_142 (c_X7_leftOfK hX hZ (by omega) (by omega)) (by decide) (by decide) ⟨Nat.zero_le _, Nat.zero_le _⟩ (Nat.le_of_ble_eq_true rfl) (fun x79 l79 u79 hp79 => ?_)
      have hq79 := hp79
      refine zs_if_le (tgt := 98) (pc := 82) C dX8_law_82 (by decide) (fun h82 => ?_) (fun h82 => ?_)
      · skip
        refine zs_ldc2 (n := -9223372036854775808) (pc := 98) C dX8_law_98 q_X8_152 (by decide) (by decide) ?_
        exact zs_lret (pc := 101) C hr hlk dX8_law_101 ⟨by repeat (first | exact zsm_rf | assumption | refine zsm_C (by decide) ?_ | refine zsm_I (by decide) ?_ | refine zsm_J ?_ | refine zsm_c (by assumption) (by decide) ?_), (by first | (rw [if_pos (show k = 0 ∨ k = 1 by omega)]; first | (rw [if_pos (by omega)]; exact hq51) | rw [if_neg (by omega)]) | (rw [if_neg (show ¬ (k = 0 ∨ k = 1) by omega)]; first | (rw [if_pos (show k = 2 by omega)]; first | (rw [if_pos (by omega)]; exact hq92) | rw [if_neg (by omega)]) | (rw [if_neg (show ¬ k = 2 by omega)]; first | (rw [if_pos (show k = 3 by omega)]; first | (rw [if_pos (by omega)]; exact hq137) | rw [if_neg (by omega)]) | rw [if_neg (show ¬ k = 3 by omega)])))⟩
      · skip
        refine zs_aload_n (pc := 85) C dX8_law_85 rfl ?_
        refine zs_getf (pc := 86) C dX8_law_86 w_X8_34 f_9_4 (by decide) ?_
        refine zs_iload_n (pc := 89) C dX8_law_89 rfl ?_
        refine zs_iload_n (pc := 90) C dX8_law_90 rfl ?_
        refine zs_iload_n (pc := 91) C dX8_law_91 rfl ?_
        refine zVj3 (pc := 92) C dX8_law_92 v_X8_148 (c_X7_valueOfK hX hZ hW hT (by omega) (by omega) (by omega) (by omega)) (by decide) (by decide) ⟨Nat.zero_le _, Nat.zero_le _⟩ (Nat.le_of_ble_eq_true rfl) (fun x92 G92 l92 u92 hp92 => ?_)
        obtain ⟨hz92, hq92⟩ := hp92
        first | have hZ92 := QQ_n hz92 hZ | have hZ92 := QQ_n hz92 hZ1
        refine zs_goto (tgt := 101) (pc := 95) C dX8_law_95 (by decide) ?_
        exact zs_lret (pc := 101) C hr hlk dX8_law_101 ⟨by repeat (first | exact zsm_rf | assumption | refine zsm_C (by decide) ?_ | refine zsm_I (by decide) ?_ | refine zsm_J ?_ | refine zsm_c (by assumption) (by decide) ?_), (by first | (rw [if_pos (show k = 0 ∨ k = 1 by omega)]; first | (rw [if_pos (by omega)]; exact hq51) | rw [if_neg (by omega)]) | (rw [if_neg (show ¬ (k = 0 ∨ k = 1) by omega)]; first | (rw [if_pos (show k = 2 by omega)]; first | (rw [if_pos (by omega)]; exact hq92) | rw [if_neg (by omega)]) | (rw [if_neg (show ¬ k = 2 by omega)]; first | (rw [if_pos (show k = 3 by omega)]; first | (rw [if_pos (by omega)]; exact hq137) | rw [if_neg (by omega)]) | rw [if_neg (show ¬ k = 3 by omega)])))⟩
  · skip
    refine zs_tabIn (pc := 1) (tgt := 102) C 3 dX8_law_1 h1 (by decide) rfl (by decide) ?_
    refine zs_aload_n (pc := 102) C dX8_law_102 rfl ?_
    refine zs_getd (r := 903) (pc := 103) C dX8_law_103 w_X8_25 f_9_3 (by decide) rfl (fun v103 e103 t103 => ?_)
    rw [hI] at e103
    subst v103
    refine zs_iconst (pc := 106) C dX8_law_106 (by decide) ?_
    refine zs_iload_n (pc := 107) C dX8_law_107 rfl ?_
    refine zVip2 (pc := 108) C dX8_law_108 v_X8_104 (c_X5_hasT hX hZ.2.1 (by omega)) (by decide) (by decide) ⟨Nat.zero_le _, Nat.zero_le _⟩ (Nat.le_of_ble_eq_true rfl) (fun x108 l108 u108 hp108 => ?_)
    have hq108 := hp108
    have hb108 : x108 = 1 ↔ 0 ≤ p ∧ p < A 4 1 := hq108.2
    have hc108 := hq108.1
    refine zs_if_eq (tgt := 143) (pc := 111) C dX8_law_111 (by decide) (fun h111 => ?_) (fun h111 => ?_)
    · skip
      refine zs_ldc2 (n := -9223372036854775808) (pc := 143) C dX8_law_143 q_X8_152 (by decide) (by decide) ?_
      exact zs_lret (pc := 146) C hr hlk dX8_law_146 ⟨by repeat (first | exact zsm_rf | assumption | refine zsm_C (by decide) ?_ | refine zsm_I (by decide) ?_ | refine zsm_J ?_ | refine zsm_c (by assumption) (by decide) ?_), (by first | (rw [if_pos (show k = 0 ∨ k = 1 by omega)]; first | (rw [if_pos (by omega)]; exact hq51) | rw [if_neg (by omega)]) | (rw [if_neg (show ¬ (k = 0 ∨ k = 1) by omega)]; first | (rw [if_pos (show k = 2 by omega)]; first | (rw [if_pos (by omega)]; exact hq92) | rw [if_neg (by omega)]) | (rw [if_neg (show ¬ k = 2 by omega)]; first | (rw [if_pos (show k = 3 by omega)]; first | (rw [if_pos (by omega)]; exact hq137) | rw [if_neg (by omega)]) | rw [if_neg (show ¬ k = 3 by omega)])))⟩
    · skip
      refine zs_aload_n (pc := 114) C dX8_law_114 rfl ?_
      refine zs_getd (r := 903) (pc := 115) C dX8_law_115 w_X8_25 f_9_3 (by decide) rfl (fun v115 e115 t115 => ?_)
      rw [hI] at e115
      subst v115
      refine zs_iconst (pc := 118) C dX8_law_118 (by decide) ?_
      refine zs_iload_n (pc := 119) C dX8_law_119 rfl ?_
      refine zVip2 (pc := 120) C dX8_law_120 v_X8_104 (c_X5_hasT hX hZ.2.1 (by omega)) (by decide) (by decide) ⟨Nat.zero_le _, Nat.zero_le _⟩ (Nat.le_of_ble_eq_true rfl) (fun x120 l120 u120 hp120 => ?_)
      have hq120 := hp120
      have hb120 : x120 = 1 ↔ 0 ≤ s ∧ s < A 4 1 := hq120.2
      have hc120 := hq120.1
      refine zs_if_eq (tgt := 143) (pc := 123) C dX8_law_123 (by decide) (fun h123 => ?_) (fun h123 => ?_)
      · skip
        refine zs_ldc2 (n := -9223372036854775808) (pc := 143) C dX8_law_143 q_X8_152 (by decide) (by decide) ?_
        exact zs_lret (pc := 146) C hr hlk dX8_law_146 ⟨by repeat (first | exact zsm_rf | assumption | refine zsm_C (by decide) ?_ | refine zsm_I (by decide) ?_ | refine zsm_J ?_ | refine zsm_c (by assumption) (by decide) ?_), (by first | (rw [if_pos (show k = 0 ∨ k = 1 by omega)]; first | (rw [if_pos (by omega)]; exact hq51) | rw [if_neg (by omega)]) | (rw [if_neg (show ¬ (k = 0 ∨ k = 1) by omega)]; first | (rw [if_pos (show k = 2 by omega)]; first | (rw [if_pos (by omega)]; exact hq92) | rw [if_neg (by omega)]) | (rw [if_neg (show ¬ k = 2 by omega)]; first | (rw [if_pos (show k = 3 by omega)]; first | (rw [if_pos (by omega)]; exact hq137) | rw [if_neg (by omega)]) | rw [if_neg (show ¬ k = 3 by omega)])))⟩
      · skip
        refine zs_iload_n (pc := 126) C dX8_law_126 rfl ?_
        refine zs_iload_n (pc := 127) C dX8_law_127 rfl ?_
        refine zs_icmp_ge (tgt := 143) (pc := 128) C dX8_law_128 (by decide) (fun h128 => ?_) (fun h128 => ?_)
        · skip
          refine zs_ldc2 (n := -9223372036854775808) (pc := 143) C dX8_law_143 q_X8_152 (by decide) (by decide) ?_
          exact zs_lret (pc := 146) C hr hlk dX8_law_146 ⟨by repeat (first | exact zsm_rf | assumption | refine zsm_C (by decide) ?_ | refine zsm_I (by decide) ?_ | refine zsm_J ?_ | refine zsm_c (by assumption) (by decide) ?_), (by first | (rw [if_pos (show k = 0 ∨ k = 1 by omega)]; first | (rw [if_pos (by omega)]; exact hq51) | rw [if_neg (by omega)]) | (rw [if_neg (show ¬ (k = 0 ∨ k = 1) by omega)]; first | (rw [if_pos (show k = 2 by omega)]; first | (rw [if_pos (by omega)]; exact hq92) | rw [if_neg (by omega)]) | (rw [if_neg (show ¬ k = 2 by omega)]; first | (rw [if_pos (show k = 3 by omega)]; first | (rw [if_pos (by omega)]; exact hq137) | rw [if_neg (by omega)]) | rw [if_neg (show ¬ k = 3 by omega)])))⟩
        · skip
          refine zs_aload_n (pc := 131) C dX8_law_131 rfl ?_
          refine zs_getf (pc := 132) C dX8_law_132 w_X8_34 f_9_4 (by decide) ?_
          refine zs_iload_n (pc := 135) C dX8_law_135 rfl ?_
          refine zs_iload_n (pc := 136) C dX8_law_136 rfl ?_
          refine zVj2 (pc := 137) C dX8_law_137 v_X8_154 (c_X7_pairValueK hX hZ hW hT (by omega) (by omega) (by omega)) (by decide) (by decide) ⟨Nat.zero_le _, Nat.zero_le _⟩ (Nat.le_of_ble_eq_true rfl) (fun x137 G137 l137 u137 hp137 => ?_)
          obtain ⟨hz137, hq137⟩ := hp137
          first | have hZ137 := QQ_n hz137 hZ | have hZ137 := QQ_n hz137 hZ1
          refine zs_goto (tgt := 146) (pc := 140) C dX8_law_140 (by decide) ?_
          exact zs_lret (pc := 146) C hr hlk dX8_law_146 ⟨by repeat (first | exact zsm_rf | assumption | refine zsm_C (by decide) ?_ | refine zsm_I (by decide) ?_ | refine zsm_J ?_ | refine zsm_c (by assumption) (by decide) ?_), (by first | (rw [if_pos (show k = 0 ∨ k = 1 by omega)]; first | (rw [if_pos (by omega)]; exact hq51) | rw [if_neg (by omega)]) | (rw [if_neg (show ¬ (k = 0 ∨ k = 1) by omega)]; first | (rw [if_pos (show k = 2 by omega)]; first | (rw [if_pos (by omega)]; exact hq92) | rw [if_neg (by omega)]) | (rw [if_neg (show ¬ k = 2 by omega)]; first | (rw [if_pos (show k = 3 by omega)]; first | (rw [if_pos (by omega)]; exact hq137) | rw [if_neg (by omega)]) | rw [if_neg (show ¬ k = 3 by omega)])))⟩
  · skip
    refine zs_tabOut (tgt := 147) (pc := 1) C dX8_law_1 h1 (by decide) ?_
    refine zs_ldc2 (n := -9223372036854775808) (pc := 147) C dX8_law_147 q_X8_152 (by decide) (by decide) ?_
    exact zs_lret (pc := 150) C hr hlk dX8_law_150 ⟨by repeat (first | exact zsm_rf | assumption | refine zsm_C (by decide) ?_ | refine zsm_I (by decide) ?_ | refine zsm_J ?_ | refine zsm_c (by assumption) (by decide) ?_), (by first | (rw [if_pos (show k = 0 ∨ k = 1 by omega)]; first | (rw [if_pos (by omega)]; exact hq51) | rw [if_neg (by omega)]) | (rw [if_neg (show ¬ (k = 0 ∨ k = 1) by omega)]; first | (rw [if_pos (show k = 2 by omega)]; first | (rw [if_pos (by omega)]; exact hq92) | rw [if_neg (by omega)]) | (rw [if_neg (show ¬ k = 2 by omega)]; first | (rw [if_pos (show k = 3 by omega)]; first | (rw [if_pos (by omega)]; exact hq137) | rw [if_neg (by omega)]) | rw [if_neg (show ¬ k = 3 by omega)])))⟩

set_option maxHeartbeats 4000000 in
set_option maxRecDepth 100000 in
theorem c_X8_rememberK {l : Launch} {Γ : zΓ} {G : zH} {w : Nat} {k : Int} (hX : zXs Γ) (hk : 0 ≤ k ∧ k ≤ 25) : zMet l Γ yX8_remember cX8_remember 2 none 2 [zr 9 w, zi k] G (zpv (fun G' => zsm [2020, 2056, 910] G G' ∧ (rmG w (G.1 2056 (Γ.2.1 w 9)) (G'.1 2056 (Γ.2.1 w 9)) (k) G G'))) := by
  refine zMet_of RX8 hX (by decide) rfl (Nat.le_of_ble_eq_true rfl) ?_
  intro p e s m args below meth c C hr hlk
  show Z p l e (zrm 2) s m args below meth c Γ 2 0 0 (MQ below (zQc Γ (zpv (fun G' => zsm [2020, 2056, 910] G G' ∧ (rmG w (G.1 2056 (Γ.2.1 w 9)) (G'.1 2056 (Γ.2.1 w 9)) (k) G G')))) args s 0 0 (zA Γ)) 0 [some (zr 9 w), some (zi k)] [] G
  refine zs_loc 1 rfl (fun ha1 hb1 => ?_)
  refine zs_aload_n (pc := 0) C dX8_remember_0 rfl ?_
  refine zs_getf (pc := 1) C dX8_remember_1 w_X8_49 f_9_7 (by decide) ?_
  refine zVv0 (pc := 4) C dX8_remember_4 v_X8_97 (c_X2_forget hX ) (by decide) (by decide) ⟨Nat.zero_le _, Nat.zero_le _⟩ (Nat.le_of_ble_eq_true rfl) (fun G4 hp4 => ?_)
  obtain ⟨hz4, hq4⟩ := hp4
  have y4 := zsm_at hz4 910 w 0 (by decide)
  have u4 : G4.1 2056 = G.1 2056 := hz4.1 2056 (by decide)
  refine zs_aload_n (pc := 7) C dX8_remember_7 rfl ?_
  refine zs_geti (r := 910) (pc := 8) C dX8_remember_8 w_X8_94 f_9_10 rfl (r_910 0) (fun v8 e8 l8 u8 => ?_)
  refine zs_bipush (pc := 11) C dX8_remember_11 (by decide) (by decide) ?_
  refine zs_icmp_lt (tgt := 37) (pc := 13) C dX8_remember_13 (by decide) (fun h13 => ?_) (fun h13 => ?_)
  · skip
    have hlo : G.1 910 w 0 < 20 := by omega
    refine zs_aload_n (pc := 37) C dX8_remember_37 rfl ?_
    refine zs_getf (pc := 38) C dX8_remember_38 w_X8_60 f_9_9 (by decide) ?_
    refine zs_aload_n (pc := 41) C dX8_remember_41 rfl ?_
    refine zs_geti (r := 910) (pc := 42) C dX8_remember_42 w_X8_94 f_9_10 rfl (r_910 0) (fun v42 e42 l42 u42 => ?_)
    refine zs_iload_n (pc := 45) C dX8_remember_45 rfl ?_
    refine zs_iast (r := 2056) (pc := 46) C dX8_remember_46 a_56 (by decide) (by omega) rfl (r_2056 _) (by omega) ?_
    refine zs_aload_n (pc := 47) C dX8_remember_47 rfl ?_
    refine zs_dupa (pc := 48) C dX8_remember_48 ?_
    refine zs_geti (r := 910) (pc := 49) C dX8_remember_49 w_X8_94 f_9_10 rfl (r_910 0) (fun v49 e49 l49 u49 => ?_)
    try simp only [zuI_1, zuI_2, zuJ_1, zuJ_2, zuJ_3, zuP_1, zuP_2, zuP_3, zuC_1, zuC_2, reduceIte, Nat.reduceEqDiff, false_and, and_false, true_and, and_true, and_self, or_true, true_or, or_false, false_or] at e49
    refine zs_iconst (pc := 52) C dX8_remember_52 (by decide) ?_
    first | refine zs_iadd (pc := 53) C dX8_remember_53 (by omega) ?_ | refine zs_iaddF (pc := 53) C dX8_remember_53 (fun z53 hz531 hz532 => ?_)
    refine zs_puti (r := 910) (pc := 54) C dX8_remember_54 w_X8_94 f_9_10 rfl (r_910 0) (by omega) ?_
    exact zs_vret (pc := 57) C hr hlk dX8_remember_57 (by
        first
        | (have h9 := hlo
           exact ⟨by repeat (first | exact zsm_rf | assumption | refine zsm_C (by decide) ?_ | refine zsm_I (by decide) ?_ | refine zsm_J ?_ | refine zsm_c (by assumption) (by decide) ?_), ⟨fun _ => ⟨(by simp only [zuI_1, zuI_2, zuJ_1, zuJ_2, zuJ_3, zuP_1, zuP_2, zuP_3, zuC_1, zuC_2, reduceIte, Nat.reduceEqDiff, false_and, and_false, true_and, and_true, and_self, or_true, true_or, or_false, false_or]; omega), fun j hj => (by simp only [zuI_1, zuI_2, zuJ_1, zuJ_2, zuJ_3, zuP_1, zuP_2, zuP_3, zuC_1, zuC_2, reduceIte, Nat.reduceEqDiff, false_and, and_false, true_and, and_true, and_self, or_true, true_or, or_false, false_or]; rw [if_neg (by omega), u4]), (by simp only [zuI_1, zuI_2, zuJ_1, zuJ_2, zuJ_3, zuP_1, zuP_2, zuP_3, zuC_1, zuC_2, reduceIte, Nat.reduceEqDiff, false_and, and_false, true_and, and_true, and_self, or_true, true_or, or_false, false_or]; rw [if_pos (by omega)])⟩, fun q => absurd hlo q⟩⟩)
        | (have h9 := hhi
           exact ⟨by repeat (first | exact zsm_rf | assumption | refine zsm_C (by decide) ?_ | refine zsm_I (by decide) ?_ | refine zsm_J ?_ | refine zsm_c (by assumption) (by decide) ?_), ⟨fun q => absurd q hhi, fun _ => ⟨(by simp only [zuI_1, zuI_2, zuJ_1, zuJ_2, zuJ_3, zuP_1, zuP_2, zuP_3, zuC_1, zuC_2, reduceIte, Nat.reduceEqDiff, false_and, and_false, true_and, and_true, and_self, or_true, true_or, or_false, false_or]; omega), fun j hj => (by simp only [zuI_1, zuI_2, zuJ_1, zuJ_2, zuJ_3, zuP_1, zuP_2, zuP_3, zuC_1, zuC_2, reduceIte, Nat.reduceEqDiff, false_and, and_false, true_and, and_true, and_self, or_true, true_or, or_false, false_or]; rw [if_neg (by omega)]; show zcp _ _ _ _ _ _ _ _ j = _; rw [zcp_1 (by omega), u4]), (by simp only [zuI_1, zuI_2, zuJ_1, zuJ_2, zuJ_3, zuP_1, zuP_2, zuP_3, zuC_1, zuC_2, reduceIte, Nat.reduceEqDiff, false_and, and_false, true_and, and_true, and_self, or_true, true_or, or_false, false_or]; rw [if_pos (by omega)])⟩⟩⟩))
  · skip
    have hhi : ¬ G.1 910 w 0 < 20 := by omega
    refine zs_aload_n (pc := 16) C dX8_remember_16 rfl ?_
    refine zs_getf (pc := 17) C dX8_remember_17 w_X8_60 f_9_9 (by decide) ?_
    refine zs_iconst (pc := 20) C dX8_remember_20 (by decide) ?_
    refine zs_aload_n (pc := 21) C dX8_remember_21 rfl ?_
    refine zs_getf (pc := 22) C dX8_remember_22 w_X8_60 f_9_9 (by decide) ?_
    refine zs_iconst (pc := 25) C dX8_remember_25 (by decide) ?_
    refine zs_bipush (pc := 26) C dX8_remember_26 (by decide) (by decide) ?_
    refine zs_acopy (r0 := 2056) (r1 := 2056) (pc := 28) C dX8_remember_28 ac_X8_191 a_56 a_56 (by decide) (by decide) (by omega) (by omega) (by omega) (by omega) (by omega) rfl rfl (fun i j => Or.inl (by rw [r_2056, r_2056]; decide)) (by decide) (Nat.le_of_ble_eq_true rfl) ?_
    refine zs_aload_n (pc := 31) C dX8_remember_31 rfl ?_
    refine zs_bipush (pc := 32) C dX8_remember_32 (by decide) (by decide) ?_
    refine zs_puti (r := 910) (pc := 34) C dX8_remember_34 w_X8_94 f_9_10 rfl (r_910 0) (by omega) ?_
    refine zs_aload_n (pc := 37) C dX8_remember_37 rfl ?_
    refine zs_getf (pc := 38) C dX8_remember_38 w_X8_60 f_9_9 (by decide) ?_
    refine zs_aload_n (pc := 41) C dX8_remember_41 rfl ?_
    refine zs_geti (r := 910) (pc := 42) C dX8_remember_42 w_X8_94 f_9_10 rfl (r_910 0) (fun v42 e42 l42 u42 => ?_)
    try simp only [zuI_1, zuI_2, zuJ_1, zuJ_2, zuJ_3, zuP_1, zuP_2, zuP_3, zuC_1, zuC_2, reduceIte, Nat.reduceEqDiff, false_and, and_false, true_and, and_true, and_self, or_true, true_or, or_false, false_or] at e42
    refine zs_iload_n (pc := 45) C dX8_remember_45 rfl ?_
    refine zs_iast (r := 2056) (pc := 46) C dX8_remember_46 a_56 (by decide) (by omega) rfl (r_2056 _) (by omega) ?_
    refine zs_aload_n (pc := 47) C dX8_remember_47 rfl ?_
    refine zs_dupa (pc := 48) C dX8_remember_48 ?_
    refine zs_geti (r := 910) (pc := 49) C dX8_remember_49 w_X8_94 f_9_10 rfl (r_910 0) (fun v49 e49 l49 u49 => ?_)
    try simp only [zuI_1, zuI_2, zuJ_1, zuJ_2, zuJ_3, zuP_1, zuP_2, zuP_3, zuC_1, zuC_2, reduceIte, Nat.reduceEqDiff, false_and, and_false, true_and, and_true, and_self, or_true, true_or, or_false, false_or] at e49
    refine zs_iconst (pc := 52) C dX8_remember_52 (by decide) ?_
    first | refine zs_iadd (pc := 53) C dX8_remember_53 (by omega) ?_ | refine zs_iaddF (pc := 53) C dX8_remember_53 (fun z53 hz531 hz532 => ?_)
    refine zs_puti (r := 910) (pc := 54) C dX8_remember_54 w_X8_94 f_9_10 rfl (r_910 0) (by omega) ?_
    exact zs_vret (pc := 57) C hr hlk dX8_remember_57 (by
        first
        | (have h9 := hlo
           exact ⟨by repeat (first | exact zsm_rf | assumption | refine zsm_C (by decide) ?_ | refine zsm_I (by decide) ?_ | refine zsm_J ?_ | refine zsm_c (by assumption) (by decide) ?_), ⟨fun _ => ⟨(by simp only [zuI_1, zuI_2, zuJ_1, zuJ_2, zuJ_3, zuP_1, zuP_2, zuP_3, zuC_1, zuC_2, reduceIte, Nat.reduceEqDiff, false_and, and_false, true_and, and_true, and_self, or_true, true_or, or_false, false_or]; omega), fun j hj => (by simp only [zuI_1, zuI_2, zuJ_1, zuJ_2, zuJ_3, zuP_1, zuP_2, zuP_3, zuC_1, zuC_2, reduceIte, Nat.reduceEqDiff, false_and, and_false, true_and, and_true, and_self, or_true, true_or, or_false, false_or]; rw [if_neg (by omega), u4]), (by simp only [zuI_1, zuI_2, zuJ_1, zuJ_2, zuJ_3, zuP_1, zuP_2, zuP_3, zuC_1, zuC_2, reduceIte, Nat.reduceEqDiff, false_and, and_false, true_and, and_true, and_self, or_true, true_or, or_false, false_or]; rw [if_pos (by omega)])⟩, fun q => absurd hlo q⟩⟩)
        | (have h9 := hhi
           exact ⟨by repeat (first | exact zsm_rf | assumption | refine zsm_C (by decide) ?_ | refine zsm_I (by decide) ?_ | refine zsm_J ?_ | refine zsm_c (by assumption) (by decide) ?_), ⟨fun q => absurd q hhi, fun _ => ⟨(by simp only [zuI_1, zuI_2, zuJ_1, zuJ_2, zuJ_3, zuP_1, zuP_2, zuP_3, zuC_1, zuC_2, reduceIte, Nat.reduceEqDiff, false_and, and_false, true_and, and_true, and_self, or_true, true_or, or_false, false_or]; omega), fun j hj => (by simp only [zuI_1, zuI_2, zuJ_1, zuJ_2, zuJ_3, zuP_1, zuP_2, zuP_3, zuC_1, zuC_2, reduceIte, Nat.reduceEqDiff, false_and, and_false, true_and, and_true, and_self, or_true, true_or, or_false, false_or]; rw [if_neg (by omega)]; show zcp _ _ _ _ _ _ _ _ j = _; rw [zcp_1 (by omega), u4]), (by simp only [zuI_1, zuI_2, zuJ_1, zuJ_2, zuJ_3, zuP_1, zuP_2, zuP_3, zuC_1, zuC_2, reduceIte, Nat.reduceEqDiff, false_and, and_false, true_and, and_true, and_self, or_true, true_or, or_false, false_or]; rw [if_pos (by omega)])⟩⟩⟩))

set_option maxHeartbeats 4000000 in
set_option maxRecDepth 100000 in
theorem c_X8_confessByCallK {l : Launch} {Γ : zΓ} {G : zH} {w t : Nat} {A W : aS} {p s : Int} (hX : zXs Γ) (hZ : QQ Γ (Γ.2.1 w 4) t A W G) (hI : G.2.2 903 w = t) (hW : WI A W) (hT : TA A) (hp : 0 ≤ p ∧ p < A 4 1) (hs : 0 ≤ s ∧ s < A 4 0) (hc : wCan W)  : zMet l Γ yX8_confessByCall cX8_confessByCall 3 (some .int) 4 [zr 9 w, zi p, zi s] G (zpi (fun x G' => zsm [510, 2026, 2027, 2028, 2029, 2030, 2031, 2032, 2033, 2034, 2035, 810, 811, 2049, 2050, 2051, 2020, 2056, 910] G G' ∧ (x = W 0 0 ∧ QQ Γ (Γ.2.1 w 4) t A (wGrind A W p s 1) G' ∧ rmG w (G.1 2056 (Γ.2.1 w 9)) (G'.1 2056 (Γ.2.1 w 9)) (0) G G'))) := by
  refine zMet_of RX8 hX (by decide) rfl (Nat.le_of_ble_eq_true rfl) ?_
  intro px9 e sx9 m args below meth c C hr hlk
  show Z px9 l e (zrm 4) sx9 m args below meth c Γ 3 0 0 (MQ below (zQc Γ (zpi (fun x G' => zsm [510, 2026, 2027, 2028, 2029, 2030, 2031, 2032, 2033, 2034, 2035, 810, 811, 2049, 2050, 2051, 2020, 2056, 910] G G' ∧ (x = W 0 0 ∧ QQ Γ (Γ.2.1 w 4) t A (wGrind A W p s 1) G' ∧ rmG w (G.1 2056 (Γ.2.1 w 9)) (G'.1 2056 (Γ.2.1 w 9)) (0) G G')))) args sx9 0 0 (zA Γ)) 0 [some (zr 9 w), some (zi p), some (zi s)] [] G
  refine zs_loc 1 rfl (fun ha1 hb1 => ?_)
  refine zs_loc 2 rfl (fun ha2 hb2 => ?_)
  have hT0 := hT.1
  have h00 := hW.1
  refine zs_aload_n (pc := 0) C dX8_confessByCall_0 rfl ?_
  refine zs_getf (pc := 1) C dX8_confessByCall_1 w_X8_34 f_9_4 (by decide) ?_
  refine zs_iload_n (pc := 4) C dX8_confessByCall_4 rfl ?_
  refine zs_iload_n (pc := 5) C dX8_confessByCall_5 rfl ?_
  refine zs_iconst (pc := 6) C dX8_confessByCall_6 (by decide) ?_
  refine zVv3 (pc := 7) C dX8_confessByCall_7 v_X8_165 (c_X7_grindOneK hX hZ hW hT (by omega) (by omega) ⟨hp.2, hs.2⟩ (by omega)) (by decide) (by decide) ⟨Nat.zero_le _, Nat.zero_le _⟩ (Nat.le_of_ble_eq_true rfl) (fun G7 hp7 => ?_)
  obtain ⟨hz7, hq7⟩ := hp7
  have hZ7 := hq7
  refine zs_aload_n (pc := 10) C dX8_confessByCall_10 rfl ?_
  refine zs_iconst (pc := 11) C dX8_confessByCall_11 (by decide) ?_
  refine zVv1 (pc := 12) C dX8_confessByCall_12 v_X8_169 (c_X8_rememberK hX (by omega)) (by decide) (by decide) ⟨Nat.zero_le _, Nat.zero_le _⟩ (Nat.le_of_ble_eq_true rfl) (fun G12 hp12 => ?_)
  obtain ⟨hz12, hq12⟩ := hp12
  skip
  have hZ12 : QQ Γ (Γ.2.1 w 4) t A (wGrind A W p s 1) G12 := QQ_sm hz12 (by decide) (by decide +kernel) hZ7
  have hg0 := (wGr_ev (A := A) (p := p) (s := s) (wr := 1) hc).1.1
  have hr12 := rmG_z hz7 (by decide) hq12
  refine zs_aload_n (pc := 15) C dX8_confessByCall_15 rfl ?_
  refine zs_getf (pc := 16) C dX8_confessByCall_16 w_X8_34 f_9_4 (by decide) ?_
  refine zs_getf (pc := 19) C dX8_confessByCall_19 w_X8_172 f_8_1 (by decide) ?_
  refine zs_geti (r := 510) (pc := 22) C dX8_confessByCall_22 w_X8_176 f_5_10 rfl (r_510 0) (fun v22 e22 l22 u22 => ?_)
  try simp only [QQ_510 hZ12, QQ_510 hZ7, QQ_510 hZ] at e22
  try subst v22
  refine zs_iconst (pc := 25) C dX8_confessByCall_25 (by decide) ?_
  first | refine zs_isub (pc := 26) C dX8_confessByCall_26 (by omega) ?_ | refine zs_isubF (pc := 26) C dX8_confessByCall_26 (fun z26 hz261 hz262 => ?_)
  exact zs_iret (pc := 27) C hr hlk dX8_confessByCall_27 ⟨by repeat (first | exact zsm_rf | assumption | refine zsm_C (by decide) ?_ | refine zsm_I (by decide) ?_ | refine zsm_J ?_ | refine zsm_c (by assumption) (by decide) ?_), ⟨by omega, hZ12, hr12⟩⟩

set_option maxHeartbeats 4000000 in
set_option maxRecDepth 100000 in
theorem c_X8_confessK {l : Launch} {Γ : zΓ} {G : zH} {w t : Nat} {A W : aS} {p s : Int} (hX : zXs Γ) (hZ : QQ Γ (Γ.2.1 w 4) t A W G) (hI : G.2.2 903 w = t) (hW : WI A W) (hT : TA A)  : zMet l Γ yX8_confess cX8_confess 3 (some .int) 5 [zr 9 w, zi p, zi s] G (zpi (fun x G' => zsm [510, 2026, 2027, 2028, 2029, 2030, 2031, 2032, 2033, 2034, 2035, 810, 811, 2049, 2050, 2051, 2020, 2056, 910] G G' ∧ (x = (if ((0 ≤ p ∧ p < A 4 1) ∧ (0 ≤ s ∧ s < A 4 0)) then (if wCan W then W 0 0 else -2) else -1) ∧ QQ Γ (Γ.2.1 w 4) t A (if ((0 ≤ p ∧ p < A 4 1) ∧ (0 ≤ s ∧ s < A 4 0)) ∧ wCan W then wGrind A W p s 1 else W) G' ∧ (((0 ≤ p ∧ p < A 4 1) ∧ (0 ≤ s ∧ s < A 4 0)) ∧ wCan W → rmG w (G.1 2056 (Γ.2.1 w 9)) (G'.1 2056 (Γ.2.1 w 9)) (0) G G') ∧ (¬ (((0 ≤ p ∧ p < A 4 1) ∧ (0 ≤ s ∧ s < A 4 0)) ∧ wCan W) → rmN w (G.1 2056 (Γ.2.1 w 9)) (G'.1 2056 (Γ.2.1 w 9)) G G')))) := by
  refine zMet_of RX8 hX (by decide) rfl (Nat.le_of_ble_eq_true rfl) ?_
  intro px9 e sx9 m args below meth c C hr hlk
  show Z px9 l e (zrm 5) sx9 m args below meth c Γ 3 0 0 (MQ below (zQc Γ (zpi (fun x G' => zsm [510, 2026, 2027, 2028, 2029, 2030, 2031, 2032, 2033, 2034, 2035, 810, 811, 2049, 2050, 2051, 2020, 2056, 910] G G' ∧ (x = (if ((0 ≤ p ∧ p < A 4 1) ∧ (0 ≤ s ∧ s < A 4 0)) then (if wCan W then W 0 0 else -2) else -1) ∧ QQ Γ (Γ.2.1 w 4) t A (if ((0 ≤ p ∧ p < A 4 1) ∧ (0 ≤ s ∧ s < A 4 0)) ∧ wCan W then wGrind A W p s 1 else W) G' ∧ (((0 ≤ p ∧ p < A 4 1) ∧ (0 ≤ s ∧ s < A 4 0)) ∧ wCan W → rmG w (G.1 2056 (Γ.2.1 w 9)) (G'.1 2056 (Γ.2.1 w 9)) (0) G G') ∧ (¬ (((0 ≤ p ∧ p < A 4 1) ∧ (0 ≤ s ∧ s < A 4 0)) ∧ wCan W) → rmN w (G.1 2056 (Γ.2.1 w 9)) (G'.1 2056 (Γ.2.1 w 9)) G G'))))) args sx9 0 0 (zA Γ)) 0 [some (zr 9 w), some (zi p), some (zi s)] [] G
  refine zs_loc 1 rfl (fun ha1 hb1 => ?_)
  refine zs_loc 2 rfl (fun ha2 hb2 => ?_)
  have hT0 := hT.1
  refine zs_aload_n (pc := 0) C dX8_confess_0 rfl ?_
  refine zs_getd (r := 903) (pc := 1) C dX8_confess_1 w_X8_25 f_9_3 (by decide) rfl (fun v1 e1 t1 => ?_)
  rw [hI] at e1
  subst v1
  refine zs_iload_n (pc := 4) C dX8_confess_4 rfl ?_
  refine zs_iload_n (pc := 5) C dX8_confess_5 rfl ?_
  refine zVip2 (pc := 6) C dX8_confess_6 v_X8_136 (c_X5_hasBothT hX hZ.2.1) (by decide) (by decide) ⟨Nat.zero_le _, Nat.zero_le _⟩ (Nat.le_of_ble_eq_true rfl) (fun x6 l6 u6 hp6 => ?_)
  have hq6 := hp6
  have hb6 : x6 = 1 ↔ ((0 ≤ p ∧ p < A 4 1) ∧ (0 ≤ s ∧ s < A 4 0)) := hq6.2
  have hc6 := hq6.1
  refine zs_if_ne (tgt := 14) (pc := 9) C dX8_confess_9 (by decide) (fun h9 => ?_) (fun h9 => ?_)
  · skip
    refine zs_aload_n (pc := 14) C dX8_confess_14 rfl ?_
    refine zs_getf (pc := 15) C dX8_confess_15 w_X8_34 f_9_4 (by decide) ?_
    refine zVip0 (pc := 18) C dX8_confess_18 v_X8_158 (c_X7_canGrindK hX hZ) (by decide) (by decide) ⟨Nat.zero_le _, Nat.zero_le _⟩ (Nat.le_of_ble_eq_true rfl) (fun x18 l18 u18 hp18 => ?_)
    have hq18 := hp18
    have hb18 : x18 = 1 ↔ wCan W := hq18.2
    have hc18 := hq18.1
    refine zs_if_eq (tgt := 33) (pc := 21) C dX8_confess_21 (by decide) (fun h21 => ?_) (fun h21 => ?_)
    · skip
      have hncan : ¬ wCan W := fun q => by have := hb18.mpr q; omega
      refine zs_bipush (pc := 33) C dX8_confess_33 (by decide) (by decide) ?_
      exact zs_iret (pc := 35) C hr hlk dX8_confess_35 (by first | exact ⟨by repeat (first | exact zsm_rf | assumption | refine zsm_C (by decide) ?_ | refine zsm_I (by decide) ?_ | refine zsm_J ?_ | refine zsm_c (by assumption) (by decide) ?_), ⟨by rw [if_pos hvb, if_pos hcan]; exact hq27.1, by rw [if_pos ⟨hvb, hcan⟩]; exact hq27.2.1, fun _ => hq27.2.2, fun q => absurd ⟨hvb, hcan⟩ q⟩⟩ | (have hno : ¬ (((0 ≤ p ∧ p < A 4 1) ∧ (0 ≤ s ∧ s < A 4 0)) ∧ wCan W) := fun q => hncan q.2; exact ⟨by repeat (first | exact zsm_rf | assumption | refine zsm_C (by decide) ?_ | refine zsm_I (by decide) ?_ | refine zsm_J ?_ | refine zsm_c (by assumption) (by decide) ?_), ⟨by rw [if_pos (hb6.mp (by omega)), if_neg hncan], (by rw [if_neg hno]; exact hZ), fun q => absurd q hno, fun _ => rmN_rf⟩⟩))
    · skip
      have hcan : wCan W := hb18.mp (by omega)
      have hvb : ((0 ≤ p ∧ p < A 4 1) ∧ (0 ≤ s ∧ s < A 4 0)) := hb6.mp (by omega)
      refine zs_aload_n (pc := 24) C dX8_confess_24 rfl ?_
      refine zs_iload_n (pc := 25) C dX8_confess_25 rfl ?_
      refine zs_iload_n (pc := 26) C dX8_confess_26 rfl ?_
      refine zVi2 (pc := 27) C dX8_confess_27 v_X8_162 (c_X8_confessByCallK hX hZ hI hW hT (by omega) (by omega) hcan) (by decide) (by decide) ⟨Nat.zero_le _, Nat.zero_le _⟩ (Nat.le_of_ble_eq_true rfl) (fun x27 G27 l27 u27 hp27 => ?_)
      obtain ⟨hz27, hq27⟩ := hp27
      refine zs_goto (tgt := 35) (pc := 30) C dX8_confess_30 (by decide) ?_
      exact zs_iret (pc := 35) C hr hlk dX8_confess_35 (by first | exact ⟨by repeat (first | exact zsm_rf | assumption | refine zsm_C (by decide) ?_ | refine zsm_I (by decide) ?_ | refine zsm_J ?_ | refine zsm_c (by assumption) (by decide) ?_), ⟨by rw [if_pos hvb, if_pos hcan]; exact hq27.1, by rw [if_pos ⟨hvb, hcan⟩]; exact hq27.2.1, fun _ => hq27.2.2, fun q => absurd ⟨hvb, hcan⟩ q⟩⟩ | (have hno : ¬ (((0 ≤ p ∧ p < A 4 1) ∧ (0 ≤ s ∧ s < A 4 0)) ∧ wCan W) := fun q => hncan q.2; exact ⟨by repeat (first | exact zsm_rf | assumption | refine zsm_C (by decide) ?_ | refine zsm_I (by decide) ?_ | refine zsm_J ?_ | refine zsm_c (by assumption) (by decide) ?_), ⟨by rw [if_pos (hb6.mp (by omega)), if_neg hncan], (by rw [if_neg hno]; exact hZ), fun q => absurd q hno, fun _ => rmN_rf⟩⟩))
  · skip
    refine zs_iconst (pc := 12) C dX8_confess_12 (by decide) ?_
    exact zs_iret (pc := 13) C hr hlk dX8_confess_13 (by
        have hno : ¬ (((0 ≤ p ∧ p < A 4 1) ∧ (0 ≤ s ∧ s < A 4 0)) ∧ wCan W) := fun q => by have := hb6.mpr q.1; omega
        exact ⟨by repeat (first | exact zsm_rf | assumption | refine zsm_C (by decide) ?_ | refine zsm_I (by decide) ?_ | refine zsm_J ?_ | refine zsm_c (by assumption) (by decide) ?_), ⟨by rw [if_neg (fun q => hno ⟨q, by have := hb6.mpr q; omega⟩)], (by rw [if_neg hno]; exact hZ), fun q => absurd q hno, fun _ => rmN_rf⟩⟩)

set_option maxHeartbeats 4000000 in
set_option maxRecDepth 100000 in
theorem c_X8_askK {l : Launch} {Γ : zΓ} {G : zH} {w t : Nat} {A W : aS} {p : Int} (hX : zXs Γ) (hZ : QQ Γ (Γ.2.1 w 4) t A W G) (hI : G.2.2 903 w = t) (hW : WI A W) (hT : TA A)  : zMet l Γ yX8_ask cX8_ask 3 (some .int) 5 [zr 9 w, zi p] G (zpi (fun x G' => zsm [510, 2026, 2027, 2028, 2029, 2030, 2031, 2032, 2033, 2034, 2035, 810, 811, 2049, 2050, 2051, 2020, 2056, 910, 812] G G' ∧ (x = (if (0 ≤ p ∧ p < A 4 1) then (if wCan W then (if wAskV A W p ≠ -1 then W 0 0 else -3) else -2) else -1) ∧ QQ Γ (Γ.2.1 w 4) t A ((if (0 ≤ p ∧ p < A 4 1) ∧ wCan W then (if wAskV A W p ≠ -1 then wGrind A (wAsk A W p) p (wAskV A W p) 1 else wAsk A W p) else W)) G' ∧ (((0 ≤ p ∧ p < A 4 1) ∧ wCan W) ∧ wAskV A W p ≠ -1 → rmG w (G.1 2056 (Γ.2.1 w 9)) (G'.1 2056 (Γ.2.1 w 9)) (0) G G') ∧ (¬ (((0 ≤ p ∧ p < A 4 1) ∧ wCan W) ∧ wAskV A W p ≠ -1) → rmN w (G.1 2056 (Γ.2.1 w 9)) (G'.1 2056 (Γ.2.1 w 9)) G G')))) := by
  refine zMet_of RX8 hX (by decide) rfl (Nat.le_of_ble_eq_true rfl) ?_
  intro px9 e s m args below meth c C hr hlk
  show Z px9 l e (zrm 5) s m args below meth c Γ 3 0 0 (MQ below (zQc Γ (zpi (fun x G' => zsm [510, 2026, 2027, 2028, 2029, 2030, 2031, 2032, 2033, 2034, 2035, 810, 811, 2049, 2050, 2051, 2020, 2056, 910, 812] G G' ∧ (x = (if (0 ≤ p ∧ p < A 4 1) then (if wCan W then (if wAskV A W p ≠ -1 then W 0 0 else -3) else -2) else -1) ∧ QQ Γ (Γ.2.1 w 4) t A ((if (0 ≤ p ∧ p < A 4 1) ∧ wCan W then (if wAskV A W p ≠ -1 then wGrind A (wAsk A W p) p (wAskV A W p) 1 else wAsk A W p) else W)) G' ∧ (((0 ≤ p ∧ p < A 4 1) ∧ wCan W) ∧ wAskV A W p ≠ -1 → rmG w (G.1 2056 (Γ.2.1 w 9)) (G'.1 2056 (Γ.2.1 w 9)) (0) G G') ∧ (¬ (((0 ≤ p ∧ p < A 4 1) ∧ wCan W) ∧ wAskV A W p ≠ -1) → rmN w (G.1 2056 (Γ.2.1 w 9)) (G'.1 2056 (Γ.2.1 w 9)) G G'))))) args s 0 0 (zA Γ)) 0 [some (zr 9 w), some (zi p), none] [] G
  refine zs_loc 1 rfl (fun ha1 hb1 => ?_)
  have hT0 := hT.1
  refine zs_aload_n (pc := 0) C dX8_ask_0 rfl ?_
  refine zs_getd (r := 903) (pc := 1) C dX8_ask_1 w_X8_25 f_9_3 (by decide) rfl (fun v1 e1 t1 => ?_)
  rw [hI] at e1
  subst v1
  refine zs_iconst (pc := 4) C dX8_ask_4 (by decide) ?_
  refine zs_iload_n (pc := 5) C dX8_ask_5 rfl ?_
  refine zVip2 (pc := 6) C dX8_ask_6 v_X8_104 (c_X5_hasT hX hZ.2.1 (by omega)) (by decide) (by decide) ⟨Nat.zero_le _, Nat.zero_le _⟩ (Nat.le_of_ble_eq_true rfl) (fun x6 l6 u6 hp6 => ?_)
  have hq6 := hp6
  have hb6 : x6 = 1 ↔ 0 ≤ p ∧ p < A 4 1 := hq6.2
  have hc6 := hq6.1
  refine zs_if_ne (tgt := 14) (pc := 9) C dX8_ask_9 (by decide) (fun h9 => ?_) (fun h9 => ?_)
  · skip
    refine zs_aload_n (pc := 14) C dX8_ask_14 rfl ?_
    refine zs_getf (pc := 15) C dX8_ask_15 w_X8_34 f_9_4 (by decide) ?_
    refine zVip0 (pc := 18) C dX8_ask_18 v_X8_158 (c_X7_canGrindK hX hZ) (by decide) (by decide) ⟨Nat.zero_le _, Nat.zero_le _⟩ (Nat.le_of_ble_eq_true rfl) (fun x18 l18 u18 hp18 => ?_)
    have hq18 := hp18
    have hb18 : x18 = 1 ↔ wCan W := hq18.2
    have hc18 := hq18.1
    refine zs_if_ne (tgt := 27) (pc := 21) C dX8_ask_21 (by decide) (fun h21 => ?_) (fun h21 => ?_)
    · skip
      have hcan : wCan W := hb18.mp (by omega)
      have hvp : (0 ≤ p ∧ p < A 4 1) := hb6.mp (by omega)
      have hav := wAskV_in (A := A) (W := W) (p := p) (by omega)
      refine zs_aload_n (pc := 27) C dX8_ask_27 rfl ?_
      refine zs_getf (pc := 28) C dX8_ask_28 w_X8_34 f_9_4 (by decide) ?_
      refine zs_iload_n (pc := 31) C dX8_ask_31 rfl ?_
      refine zVi1 (pc := 32) C dX8_ask_32 v_X8_181 (c_X7_sinByChanceK hX hZ hW hT (by omega) (by omega)) (by decide) (by decide) ⟨Nat.zero_le _, Nat.zero_le _⟩ (Nat.le_of_ble_eq_true rfl) (fun x32 G32 l32 u32 hp32 => ?_)
      obtain ⟨hz32, hq32⟩ := hp32
      have hZ32 := hq32.1
      have hX32 := hq32.2
      have hx32 := hX32.1
      subst hx32
      refine zs_istore_n (pc := 35) C dX8_ask_35 (by decide) ?_
      dsimp only [zset, zclr, znone]
      refine zs_aload_n (pc := 36) C dX8_ask_36 rfl ?_
      refine zs_getd (r := 903) (pc := 37) C dX8_ask_37 w_X8_25 f_9_3 (by decide) rfl (fun v37 e37 t37 => ?_)
      try simp only [hz32.2, zuI_1, zuI_2, zuJ_1, zuJ_2, zuJ_3, zuP_1, zuP_2, zuP_3, zuC_1, zuC_2, reduceIte, Nat.reduceEqDiff, false_and, and_false, true_and, and_true, and_self, or_true, true_or, or_false, false_or] at e37
      rw [hI] at e37
      subst v37
      refine zs_iconst (pc := 40) C dX8_ask_40 (by decide) ?_
      refine zs_iload_n (pc := 41) C dX8_ask_41 rfl ?_
      refine zVip2 (pc := 42) C dX8_ask_42 v_X8_104 (c_X5_hasT hX hZ32.2.1 (by omega)) (by decide) (by decide) ⟨Nat.zero_le _, Nat.zero_le _⟩ (Nat.le_of_ble_eq_true rfl) (fun x42 l42 u42 hp42 => ?_)
      have hq42 := hp42
      have hb42 : x42 = 1 ↔ 0 ≤ (wAskV A W p) ∧ (wAskV A W p) < A 4 0 := hq42.2
      have hc42 := hq42.1
      refine zs_if_eq (tgt := 57) (pc := 45) C dX8_ask_45 (by decide) (fun h45 => ?_) (fun h45 => ?_)
      · skip
        refine zs_bipush (pc := 57) C dX8_ask_57 (by decide) (by decide) ?_
        exact zs_iret (pc := 59) C hr hlk dX8_ask_59 (by first | (have hne : wAskV A W p ≠ -1 := (by omega); have e0 : (wAsk A W p) 0 0 = W 0 0 := (wAsk_0 (by decide)); exact ⟨by repeat (first | exact zsm_rf | assumption | refine zsm_C (by decide) ?_ | refine zsm_I (by decide) ?_ | refine zsm_J ?_ | refine zsm_c (by assumption) (by decide) ?_), ⟨by rw [if_pos hvp, if_pos hcan, if_pos hne]; exact hq51.1.trans e0, by rw [if_pos ⟨hvp, hcan⟩, if_pos hne]; exact hq51.2.1, fun _ => rmG_z hz32 (by decide) hq51.2.2, fun q => absurd ⟨⟨hvp, hcan⟩, hne⟩ q⟩⟩) | (have hne : ¬ wAskV A W p ≠ -1 := (by omega); exact ⟨by repeat (first | exact zsm_rf | assumption | refine zsm_C (by decide) ?_ | refine zsm_I (by decide) ?_ | refine zsm_J ?_ | refine zsm_c (by assumption) (by decide) ?_), ⟨by rw [if_pos hvp, if_pos hcan, if_neg hne], by rw [if_pos ⟨hvp, hcan⟩, if_neg hne]; exact hZ32, fun q => absurd q.2 hne, fun _ => rmN_z hz32 (by decide)⟩⟩))
      · skip
        refine zs_aload_n (pc := 48) C dX8_ask_48 rfl ?_
        refine zs_iload_n (pc := 49) C dX8_ask_49 rfl ?_
        refine zs_iload_n (pc := 50) C dX8_ask_50 rfl ?_
        refine zVi2 (pc := 51) C dX8_ask_51 v_X8_162 (c_X8_confessByCallK hX hZ32 (by rw [hz32.2]; exact hI) (WI_ask hW) hT hvp (by omega) (wCan_ask.mpr hcan)) (by decide) (by decide) ⟨Nat.zero_le _, Nat.zero_le _⟩ (Nat.le_of_ble_eq_true rfl) (fun x51 G51 l51 u51 hp51 => ?_)
        obtain ⟨hz51, hq51⟩ := hp51
        refine zs_goto (tgt := 59) (pc := 54) C dX8_ask_54 (by decide) ?_
        exact zs_iret (pc := 59) C hr hlk dX8_ask_59 (by first | (have hne : wAskV A W p ≠ -1 := (by omega); have e0 : (wAsk A W p) 0 0 = W 0 0 := (wAsk_0 (by decide)); exact ⟨by repeat (first | exact zsm_rf | assumption | refine zsm_C (by decide) ?_ | refine zsm_I (by decide) ?_ | refine zsm_J ?_ | refine zsm_c (by assumption) (by decide) ?_), ⟨by rw [if_pos hvp, if_pos hcan, if_pos hne]; exact hq51.1.trans e0, by rw [if_pos ⟨hvp, hcan⟩, if_pos hne]; exact hq51.2.1, fun _ => rmG_z hz32 (by decide) hq51.2.2, fun q => absurd ⟨⟨hvp, hcan⟩, hne⟩ q⟩⟩) | (have hne : ¬ wAskV A W p ≠ -1 := (by omega); exact ⟨by repeat (first | exact zsm_rf | assumption | refine zsm_C (by decide) ?_ | refine zsm_I (by decide) ?_ | refine zsm_J ?_ | refine zsm_c (by assumption) (by decide) ?_), ⟨by rw [if_pos hvp, if_pos hcan, if_neg hne], by rw [if_pos ⟨hvp, hcan⟩, if_neg hne]; exact hZ32, fun q => absurd q.2 hne, fun _ => rmN_z hz32 (by decide)⟩⟩))
    · skip
      have hncan : ¬ wCan W := fun q => by have := hb18.mpr q; omega
      refine zs_bipush (pc := 24) C dX8_ask_24 (by decide) (by decide) ?_
      exact zs_iret (pc := 26) C hr hlk dX8_ask_26 (by exact ⟨by repeat (first | exact zsm_rf | assumption | refine zsm_C (by decide) ?_ | refine zsm_I (by decide) ?_ | refine zsm_J ?_ | refine zsm_c (by assumption) (by decide) ?_), ⟨by rw [if_pos (hb6.mp (by omega)), if_neg hncan], by rw [if_neg (fun q => hncan q.2)]; exact hZ, fun q => absurd q.1.2 hncan, fun _ => rmN_rf⟩⟩)
  · skip
    refine zs_iconst (pc := 12) C dX8_ask_12 (by decide) ?_
    exact zs_iret (pc := 13) C hr hlk dX8_ask_13 (by
        have hno : ¬ ((0 ≤ p ∧ p < A 4 1)) := fun q => by have := hb6.mpr q; omega
        exact ⟨by repeat (first | exact zsm_rf | assumption | refine zsm_C (by decide) ?_ | refine zsm_I (by decide) ?_ | refine zsm_J ?_ | refine zsm_c (by assumption) (by decide) ?_), ⟨by rw [if_neg hno], by rw [if_neg (fun q => hno q.1)]; exact hZ, fun q => absurd q.1.1 hno, fun _ => rmN_rf⟩⟩)

set_option maxHeartbeats 4000000 in
set_option maxRecDepth 100000 in
theorem c_X8_fallK {l : Launch} {Γ : zΓ} {G : zH} {w t : Nat} {A W : aS} {p s : Int} (hX : zXs Γ) (hZ : QQ Γ (Γ.2.1 w 4) t A W G) (hI : G.2.2 903 w = t) (hW : WI A W) (hT : TA A)  : zMet l Γ yX8_fall cX8_fall 3 (some .int) 3 [zr 9 w, zi p, zi s] G (zpi (fun x G' => zsm [2048, 2049, 2052, 2020, 2056, 910] G G' ∧ (x = (if ((0 ≤ p ∧ p < A 4 1) ∧ (0 ≤ s ∧ s < A 4 0)) then (if W 11 (p * 4 + s).toNat < 99 then W 15 p.toNat + 1 else -2) else -1) ∧ QQ Γ (Γ.2.1 w 4) t A (if ((0 ≤ p ∧ p < A 4 1) ∧ (0 ≤ s ∧ s < A 4 0)) ∧ W 11 (p * 4 + s).toNat < 99 then wFall W p s else W) G' ∧ (((0 ≤ p ∧ p < A 4 1) ∧ (0 ≤ s ∧ s < A 4 0)) ∧ W 11 (p * 4 + s).toNat < 99 → rmG w (G.1 2056 (Γ.2.1 w 9)) (G'.1 2056 (Γ.2.1 w 9)) (1 + p * 4 + s) G G') ∧ (¬ (((0 ≤ p ∧ p < A 4 1) ∧ (0 ≤ s ∧ s < A 4 0)) ∧ W 11 (p * 4 + s).toNat < 99) → rmN w (G.1 2056 (Γ.2.1 w 9)) (G'.1 2056 (Γ.2.1 w 9)) G G')))) := by
  refine zMet_of RX8 hX (by decide) rfl (Nat.le_of_ble_eq_true rfl) ?_
  intro px9 e sx9 m args below meth c C hr hlk
  show Z px9 l e (zrm 3) sx9 m args below meth c Γ 3 0 0 (MQ below (zQc Γ (zpi (fun x G' => zsm [2048, 2049, 2052, 2020, 2056, 910] G G' ∧ (x = (if ((0 ≤ p ∧ p < A 4 1) ∧ (0 ≤ s ∧ s < A 4 0)) then (if W 11 (p * 4 + s).toNat < 99 then W 15 p.toNat + 1 else -2) else -1) ∧ QQ Γ (Γ.2.1 w 4) t A (if ((0 ≤ p ∧ p < A 4 1) ∧ (0 ≤ s ∧ s < A 4 0)) ∧ W 11 (p * 4 + s).toNat < 99 then wFall W p s else W) G' ∧ (((0 ≤ p ∧ p < A 4 1) ∧ (0 ≤ s ∧ s < A 4 0)) ∧ W 11 (p * 4 + s).toNat < 99 → rmG w (G.1 2056 (Γ.2.1 w 9)) (G'.1 2056 (Γ.2.1 w 9)) (1 + p * 4 + s) G G') ∧ (¬ (((0 ≤ p ∧ p < A 4 1) ∧ (0 ≤ s ∧ s < A 4 0)) ∧ W 11 (p * 4 + s).toNat < 99) → rmN w (G.1 2056 (Γ.2.1 w 9)) (G'.1 2056 (Γ.2.1 w 9)) G G'))))) args sx9 0 0 (zA Γ)) 0 [some (zr 9 w), some (zi p), some (zi s)] [] G
  refine zs_loc 1 rfl (fun ha1 hb1 => ?_)
  refine zs_loc 2 rfl (fun ha2 hb2 => ?_)
  have hT0 := hT.1
  refine zs_aload_n (pc := 0) C dX8_fall_0 rfl ?_
  refine zs_getd (r := 903) (pc := 1) C dX8_fall_1 w_X8_25 f_9_3 (by decide) rfl (fun v1 e1 t1 => ?_)
  rw [hI] at e1
  subst v1
  refine zs_iload_n (pc := 4) C dX8_fall_4 rfl ?_
  refine zs_iload_n (pc := 5) C dX8_fall_5 rfl ?_
  refine zVip2 (pc := 6) C dX8_fall_6 v_X8_136 (c_X5_hasBothT hX hZ.2.1) (by decide) (by decide) ⟨Nat.zero_le _, Nat.zero_le _⟩ (Nat.le_of_ble_eq_true rfl) (fun x6 l6 u6 hp6 => ?_)
  have hq6 := hp6
  have hb6 : x6 = 1 ↔ ((0 ≤ p ∧ p < A 4 1) ∧ (0 ≤ s ∧ s < A 4 0)) := hq6.2
  have hc6 := hq6.1
  refine zs_if_ne (tgt := 14) (pc := 9) C dX8_fall_9 (by decide) (fun h9 => ?_) (fun h9 => ?_)
  · skip
    refine zs_aload_n (pc := 14) C dX8_fall_14 rfl ?_
    refine zs_getf (pc := 15) C dX8_fall_15 w_X8_34 f_9_4 (by decide) ?_
    refine zs_iload_n (pc := 18) C dX8_fall_18 rfl ?_
    refine zs_iload_n (pc := 19) C dX8_fall_19 rfl ?_
    refine zVip2 (pc := 20) C dX8_fall_20 v_X8_184 (c_X7_canFallK hX hZ (by omega) (by omega)) (by decide) (by decide) ⟨Nat.zero_le _, Nat.zero_le _⟩ (Nat.le_of_ble_eq_true rfl) (fun x20 l20 u20 hp20 => ?_)
    have hq20 := hp20
    have hb20 := hq20.2
    have hc20 := hq20.1
    refine zs_if_ne (tgt := 29) (pc := 23) C dX8_fall_23 (by decide) (fun h23 => ?_) (fun h23 => ?_)
    · skip
      have hcan := hb20.mp (by omega)
      have hvb : ((0 ≤ p ∧ p < A 4 1) ∧ (0 ≤ s ∧ s < A 4 0)) := hb6.mp (by omega)
      refine zs_aload_n (pc := 29) C dX8_fall_29 rfl ?_
      refine zs_getf (pc := 30) C dX8_fall_30 w_X8_34 f_9_4 (by decide) ?_
      refine zs_iload_n (pc := 33) C dX8_fall_33 rfl ?_
      refine zs_iload_n (pc := 34) C dX8_fall_34 rfl ?_
      refine zVv2 (pc := 35) C dX8_fall_35 v_X8_187 (c_X7_fallOnceK hX hZ hW (by omega) (by omega) hcan) (by decide) (by decide) ⟨Nat.zero_le _, Nat.zero_le _⟩ (Nat.le_of_ble_eq_true rfl) (fun G35 hp35 => ?_)
      obtain ⟨hz35, hq35⟩ := hp35
      have hZ35 := hq35
      refine zs_aload_n (pc := 38) C dX8_fall_38 rfl ?_
      refine zs_iconst (pc := 39) C dX8_fall_39 (by decide) ?_
      refine zs_iload_n (pc := 40) C dX8_fall_40 rfl ?_
      refine zs_iconst (pc := 41) C dX8_fall_41 (by decide) ?_
      first | refine zs_imul (pc := 42) C dX8_fall_42 (by omega) ?_ | refine zs_imulF (pc := 42) C dX8_fall_42 (fun z42 hz421 hz422 => ?_)
      first | refine zs_iadd (pc := 43) C dX8_fall_43 (by omega) ?_ | refine zs_iaddF (pc := 43) C dX8_fall_43 (fun z43 hz431 hz432 => ?_)
      refine zs_iload_n (pc := 44) C dX8_fall_44 rfl ?_
      first | refine zs_iadd (pc := 45) C dX8_fall_45 (by omega) ?_ | refine zs_iaddF (pc := 45) C dX8_fall_45 (fun z45 hz451 hz452 => ?_)
      refine zVv1 (pc := 46) C dX8_fall_46 v_X8_169 (c_X8_rememberK hX (by omega)) (by decide) (by decide) ⟨Nat.zero_le _, Nat.zero_le _⟩ (Nat.le_of_ble_eq_true rfl) (fun G46 hp46 => ?_)
      obtain ⟨hz46, hq46⟩ := hp46
      skip
      have hZ46 : QQ Γ (Γ.2.1 w 4) t A (wFall W p s) G46 := QQ_sm hz46 (by decide) (by decide +kernel) hZ35
      have hr46 := rmG_z hz35 (by decide) hq46
      have hf15 := (wFa_ev W p s).2.2.1 p.toNat
      rw [if_pos rfl] at hf15
      refine zs_aload_n (pc := 49) C dX8_fall_49 rfl ?_
      refine zs_getf (pc := 50) C dX8_fall_50 w_X8_34 f_9_4 (by decide) ?_
      refine zs_getf (pc := 53) C dX8_fall_53 w_X8_128 f_8_6 (by decide) ?_
      refine zs_iload_n (pc := 56) C dX8_fall_56 rfl ?_
      refine zs_iald (r := 2052) (pc := 57) C dX8_fall_57 a_52 (by decide) (by omega) rfl (r_2052 _) (fun v57 e57 l57 u57 => ?_)
      try simp only [QQ_2052 hZ46, QQ_2052 hZ35, QQ_2052 hZ] at e57
      try subst v57
      exact zs_iret (pc := 58) C hr hlk dX8_fall_58 ⟨by repeat (first | exact zsm_rf | assumption | refine zsm_C (by decide) ?_ | refine zsm_I (by decide) ?_ | refine zsm_J ?_ | refine zsm_c (by assumption) (by decide) ?_), ⟨by rw [if_pos hvb, if_pos hcan]; first | exact hf15 | (rw [e57, QQ_2052 hZ46]; exact hf15), by rw [if_pos ⟨hvb, hcan⟩]; exact hZ46, fun _ => hr46, fun q => absurd ⟨hvb, hcan⟩ q⟩⟩
    · skip
      have hncan : ¬ W 11 (p * 4 + s).toNat < 99 := fun q => by have := hb20.mpr q; omega
      refine zs_bipush (pc := 26) C dX8_fall_26 (by decide) (by decide) ?_
      exact zs_iret (pc := 28) C hr hlk dX8_fall_28 (by
          have hno : ¬ (((0 ≤ p ∧ p < A 4 1) ∧ (0 ≤ s ∧ s < A 4 0)) ∧ W 11 (p * 4 + s).toNat < 99) := fun q => hncan q.2
          exact ⟨by repeat (first | exact zsm_rf | assumption | refine zsm_C (by decide) ?_ | refine zsm_I (by decide) ?_ | refine zsm_J ?_ | refine zsm_c (by assumption) (by decide) ?_), ⟨by rw [if_pos (hb6.mp (by omega)), if_neg hncan], (by rw [if_neg hno]; exact hZ), fun q => absurd q hno, fun _ => rmN_rf⟩⟩)
  · skip
    refine zs_iconst (pc := 12) C dX8_fall_12 (by decide) ?_
    exact zs_iret (pc := 13) C hr hlk dX8_fall_13 (by
        have hno : ¬ (((0 ≤ p ∧ p < A 4 1) ∧ (0 ≤ s ∧ s < A 4 0)) ∧ W 11 (p * 4 + s).toNat < 99) := fun q => by have := hb6.mpr q.1; omega
        exact ⟨by repeat (first | exact zsm_rf | assumption | refine zsm_C (by decide) ?_ | refine zsm_I (by decide) ?_ | refine zsm_J ?_ | refine zsm_c (by assumption) (by decide) ?_), ⟨by rw [if_neg (fun q => by have := hb6.mpr q; omega)], (by rw [if_neg hno]; exact hZ), fun q => absurd q hno, fun _ => rmN_rf⟩⟩)

set_option maxHeartbeats 4000000 in
set_option maxRecDepth 100000 in
theorem c_X8_sackK {l : Launch} {Γ : zΓ} {G : zH} {w t : Nat} {A W : aS} {a k : Int} (hX : zXs Γ) (hZ : QQ Γ (Γ.2.1 w 4) t A W G) (hI : G.2.2 903 w = t) (hW : WI A W)  : zMet l Γ yX8_sack cX8_sack 3 (some .int) 1 [zr 9 w, zi a, zi k] G (zpi (fun x G' => G' = G ∧ (x = (if 0 ≤ a ∧ a < W 0 0 then (if k = 0 then W 1 a.toNat else if k = 1 then W 2 a.toNat else if k = 2 then W 3 a.toNat else if k = 3 then W 5 a.toNat else if k = 4 then wLie W a (W 2 a.toNat) else -1) else -1)))) := by
  refine zMet_of RX8 hX (by decide) rfl (Nat.le_of_ble_eq_true rfl) ?_
  intro p e s m args below meth c C hr hlk
  show Z p l e (zrm 1) s m args below meth c Γ 3 0 0 (MQ below (zQc Γ (zpi (fun x G' => G' = G ∧ (x = (if 0 ≤ a ∧ a < W 0 0 then (if k = 0 then W 1 a.toNat else if k = 1 then W 2 a.toNat else if k = 2 then W 3 a.toNat else if k = 3 then W 5 a.toNat else if k = 4 then wLie W a (W 2 a.toNat) else -1) else -1))))) args s 0 0 (zA Γ)) 0 [some (zr 9 w), some (zi a), some (zi k)] [] G
  refine zs_loc 1 rfl (fun ha1 hb1 => ?_)
  refine zs_loc 2 rfl (fun ha2 hb2 => ?_)
  have h00 := hW.1
  refine zs_aload_n (pc := 0) C dX8_sack_0 rfl ?_
  refine zs_getf (pc := 1) C dX8_sack_1 w_X8_34 f_9_4 (by decide) ?_
  refine zs_getf (pc := 4) C dX8_sack_4 w_X8_172 f_8_1 (by decide) ?_
  refine zs_iload_n (pc := 7) C dX8_sack_7 rfl ?_
  refine zVip1 (pc := 8) C dX8_sack_8 v_X8_197 (c_X4_hasK hX hZ) (by decide) (by decide) ⟨Nat.zero_le _, Nat.zero_le _⟩ (Nat.le_of_ble_eq_true rfl) (fun x8 l8 u8 hp8 => ?_)
  have hq8 := hp8
  have hb8 := hq8.2
  have hc8 := hq8.1
  refine zs_if_ne (tgt := 16) (pc := 11) C dX8_sack_11 (by decide) (fun h11 => ?_) (fun h11 => ?_)
  · skip
    refine zs_iload_n (pc := 16) C dX8_sack_16 rfl ?_
    refine zs_name (fun y17 ey17 => ?_)
    rcases (show y17 = 0 ∨ y17 = 1 ∨ y17 = 2 ∨ y17 = 3 ∨ y17 = 4 ∨ (y17 < 0 ∨ 4 < y17) by omega) with h17 | h17 | h17 | h17 | h17 | h17
    · skip
      refine zs_tabIn (pc := 17) (tgt := 52) C 0 dX8_sack_17 h17 (by decide) rfl (by decide) ?_
      refine zs_aload_n (pc := 52) C dX8_sack_52 rfl ?_
      refine zs_getf (pc := 53) C dX8_sack_53 w_X8_34 f_9_4 (by decide) ?_
      refine zs_getf (pc := 56) C dX8_sack_56 w_X8_172 f_8_1 (by decide) ?_
      refine zs_getf (pc := 59) C dX8_sack_59 w_X8_200 f_5_0 (by decide) ?_
      refine zs_iload_n (pc := 62) C dX8_sack_62 rfl ?_
      refine zs_iald (r := 2026) (pc := 63) C dX8_sack_63 a_26 (by decide) (by omega) rfl (r_2026 _) (fun v63 e63 l63 u63 => ?_)
      try simp only [QQ_2026 hZ] at e63
      try subst v63
      exact zs_iret (pc := 64) C hr hlk dX8_sack_64 ⟨rfl, (by first | (rw [if_neg (by omega)]) | (rw [if_pos (by omega)]; (repeat' split) <;> first | rfl | assumption | omega))⟩
    · skip
      refine zs_tabIn (pc := 17) (tgt := 65) C 1 dX8_sack_17 h17 (by decide) rfl (by decide) ?_
      refine zs_aload_n (pc := 65) C dX8_sack_65 rfl ?_
      refine zs_getf (pc := 66) C dX8_sack_66 w_X8_34 f_9_4 (by decide) ?_
      refine zs_getf (pc := 69) C dX8_sack_69 w_X8_172 f_8_1 (by decide) ?_
      refine zs_getf (pc := 72) C dX8_sack_72 w_X8_203 f_5_1 (by decide) ?_
      refine zs_iload_n (pc := 75) C dX8_sack_75 rfl ?_
      refine zs_iald (r := 2027) (pc := 76) C dX8_sack_76 a_27 (by decide) (by omega) rfl (r_2027 _) (fun v76 e76 l76 u76 => ?_)
      try simp only [QQ_2027 hZ] at e76
      try subst v76
      exact zs_iret (pc := 77) C hr hlk dX8_sack_77 ⟨rfl, (by first | (rw [if_neg (by omega)]) | (rw [if_pos (by omega)]; (repeat' split) <;> first | rfl | assumption | omega))⟩
    · skip
      refine zs_tabIn (pc := 17) (tgt := 78) C 2 dX8_sack_17 h17 (by decide) rfl (by decide) ?_
      refine zs_aload_n (pc := 78) C dX8_sack_78 rfl ?_
      refine zs_getf (pc := 79) C dX8_sack_79 w_X8_34 f_9_4 (by decide) ?_
      refine zs_getf (pc := 82) C dX8_sack_82 w_X8_172 f_8_1 (by decide) ?_
      refine zs_getf (pc := 85) C dX8_sack_85 w_X8_206 f_5_2 (by decide) ?_
      refine zs_iload_n (pc := 88) C dX8_sack_88 rfl ?_
      refine zs_iald (r := 2028) (pc := 89) C dX8_sack_89 a_28 (by decide) (by omega) rfl (r_2028 _) (fun v89 e89 l89 u89 => ?_)
      try simp only [QQ_2028 hZ] at e89
      try subst v89
      exact zs_iret (pc := 90) C hr hlk dX8_sack_90 ⟨rfl, (by first | (rw [if_neg (by omega)]) | (rw [if_pos (by omega)]; (repeat' split) <;> first | rfl | assumption | omega))⟩
    · skip
      refine zs_tabIn (pc := 17) (tgt := 91) C 3 dX8_sack_17 h17 (by decide) rfl (by decide) ?_
      refine zs_aload_n (pc := 91) C dX8_sack_91 rfl ?_
      refine zs_getf (pc := 92) C dX8_sack_92 w_X8_34 f_9_4 (by decide) ?_
      refine zs_getf (pc := 95) C dX8_sack_95 w_X8_172 f_8_1 (by decide) ?_
      refine zs_getf (pc := 98) C dX8_sack_98 w_X8_209 f_5_4 (by decide) ?_
      refine zs_iload_n (pc := 101) C dX8_sack_101 rfl ?_
      refine zs_iald (r := 2030) (pc := 102) C dX8_sack_102 a_30 (by decide) (by omega) rfl (r_2030 _) (fun v102 e102 l102 u102 => ?_)
      try simp only [QQ_2030 hZ] at e102
      try subst v102
      exact zs_iret (pc := 103) C hr hlk dX8_sack_103 ⟨rfl, (by first | (rw [if_neg (by omega)]) | (rw [if_pos (by omega)]; (repeat' split) <;> first | rfl | assumption | omega))⟩
    · skip
      refine zs_tabIn (pc := 17) (tgt := 104) C 4 dX8_sack_17 h17 (by decide) rfl (by decide) ?_
      refine zs_aload_n (pc := 104) C dX8_sack_104 rfl ?_
      refine zs_getf (pc := 105) C dX8_sack_105 w_X8_34 f_9_4 (by decide) ?_
      refine zs_getf (pc := 108) C dX8_sack_108 w_X8_172 f_8_1 (by decide) ?_
      refine zs_iload_n (pc := 111) C dX8_sack_111 rfl ?_
      refine zs_aload_n (pc := 112) C dX8_sack_112 rfl ?_
      refine zs_getf (pc := 113) C dX8_sack_113 w_X8_34 f_9_4 (by decide) ?_
      refine zs_getf (pc := 116) C dX8_sack_116 w_X8_172 f_8_1 (by decide) ?_
      refine zs_getf (pc := 119) C dX8_sack_119 w_X8_203 f_5_1 (by decide) ?_
      refine zs_iload_n (pc := 122) C dX8_sack_122 rfl ?_
      refine zs_iald (r := 2027) (pc := 123) C dX8_sack_123 a_27 (by decide) (by omega) rfl (r_2027 _) (fun v123 e123 l123 u123 => ?_)
      try simp only [QQ_2027 hZ] at e123
      try subst v123
      refine zVip2 (pc := 124) C dX8_sack_124 v_X8_212 (c_X4_lieByK hX hZ (by omega)) (by decide) (by decide) ⟨Nat.zero_le _, Nat.zero_le _⟩ (Nat.le_of_ble_eq_true rfl) (fun x124 l124 u124 hp124 => ?_)
      have hq124 := hp124
      exact zs_iret (pc := 127) C hr hlk dX8_sack_127 ⟨rfl, (by first | (rw [if_neg (by omega)]) | (rw [if_pos (by omega)]; (repeat' split) <;> first | rfl | assumption | omega))⟩
    · skip
      refine zs_tabOut (tgt := 128) (pc := 17) C dX8_sack_17 h17 (by decide) ?_
      refine zs_iconst (pc := 128) C dX8_sack_128 (by decide) ?_
      exact zs_iret (pc := 129) C hr hlk dX8_sack_129 ⟨rfl, (by first | (rw [if_neg (by omega)]) | (rw [if_pos (by omega)]; (repeat' split) <;> first | rfl | assumption | omega))⟩
  · skip
    refine zs_iconst (pc := 14) C dX8_sack_14 (by decide) ?_
    exact zs_iret (pc := 15) C hr hlk dX8_sack_15 ⟨rfl, (by first | (rw [if_neg (by omega)]) | (rw [if_pos (by omega)]; (repeat' split) <;> first | rfl | assumption | omega))⟩

set_option maxHeartbeats 4000000 in
set_option maxRecDepth 100000 in
theorem c_X8_isFineK {l : Launch} {Γ : zΓ} {G : zH} {a : Int} (hX : zXs Γ)  : zMet l Γ yX8_isFine cX8_isFine 1 (some .boolean) 0 [zi a] G (zpi (fun x G' => G' = G ∧ ((x = 0 ∨ x = 1) ∧ (x = 1 ↔ 0 ≤ a ∧ a ≤ 999)))) := by
  refine zMet_of RX8 hX (by decide) rfl (Nat.le_of_ble_eq_true rfl) ?_
  intro p e s m args below meth c C hr hlk
  show Z p l e (zrm 0) s m args below meth c Γ 1 0 0 (MQ below (zQc Γ (zpi (fun x G' => G' = G ∧ ((x = 0 ∨ x = 1) ∧ (x = 1 ↔ 0 ≤ a ∧ a ≤ 999))))) args s 0 0 (zA Γ)) 0 [some (zi a)] [] G
  refine zs_loc 0 rfl (fun ha0 hb0 => ?_)
  refine zs_iload_n (pc := 0) C dX8_isFine_0 rfl ?_
  refine zs_if_lt (tgt := 15) (pc := 1) C dX8_isFine_1 (by decide) (fun h1 => ?_) (fun h1 => ?_)
  · skip
    refine zs_iconst (pc := 15) C dX8_isFine_15 (by decide) ?_
    exact zs_zret (pc := 16) C hr hlk dX8_isFine_16 (by omega) ⟨rfl, (by refine ⟨by omega, ?_⟩; constructor <;> intro hq <;> omega)⟩
  · skip
    refine zs_iload_n (pc := 4) C dX8_isFine_4 rfl ?_
    refine zs_sipush (pc := 5) C dX8_isFine_5 (by decide) (by decide) ?_
    refine zs_icmp_gt (tgt := 15) (pc := 8) C dX8_isFine_8 (by decide) (fun h8 => ?_) (fun h8 => ?_)
    · skip
      refine zs_iconst (pc := 15) C dX8_isFine_15 (by decide) ?_
      exact zs_zret (pc := 16) C hr hlk dX8_isFine_16 (by omega) ⟨rfl, (by refine ⟨by omega, ?_⟩; constructor <;> intro hq <;> omega)⟩
    · skip
      refine zs_iconst (pc := 11) C dX8_isFine_11 (by decide) ?_
      refine zs_goto (tgt := 16) (pc := 12) C dX8_isFine_12 (by decide) ?_
      exact zs_zret (pc := 16) C hr hlk dX8_isFine_16 (by omega) ⟨rfl, (by refine ⟨by omega, ?_⟩; constructor <;> intro hq <;> omega)⟩

set_option maxHeartbeats 4000000 in
set_option maxRecDepth 100000 in
theorem c_X8_flourK {l : Launch} {Γ : zΓ} {G : zH} {w t : Nat} {A W : aS} {a : Int} (hX : zXs Γ) (hZ : QQ Γ (Γ.2.1 w 4) t A W G) (hI : G.2.2 903 w = t) (hW : WI A W)  : zMet l Γ yX8_flour cX8_flour 2 (some .int) 1 [zr 9 w, zi a] G (zpi (fun x G' => G' = G ∧ (x = if 0 ≤ a ∧ a ≤ 999 then wFlour W a else -1))) := by
  refine zMet_of RX8 hX (by decide) rfl (Nat.le_of_ble_eq_true rfl) ?_
  intro p e s m args below meth c C hr hlk
  show Z p l e (zrm 1) s m args below meth c Γ 2 0 0 (MQ below (zQc Γ (zpi (fun x G' => G' = G ∧ (x = if 0 ≤ a ∧ a ≤ 999 then wFlour W a else -1)))) args s 0 0 (zA Γ)) 0 [some (zr 9 w), some (zi a)] [] G
  refine zs_loc 1 rfl (fun ha1 hb1 => ?_)
  refine zs_iload_n (pc := 0) C dX8_flour_0 rfl ?_
  refine zSip1 (pc := 1) C dX8_flour_1 s_X8_215 (c_X8_isFineK hX ) (by decide) ⟨Nat.zero_le _, Nat.zero_le _⟩ (Nat.le_of_ble_eq_true rfl) (fun x1 l1 u1 hp1 => ?_)
  have hq1 := hp1
  have hb1 := hq1.2
  have hc1 := hq1.1
  refine zs_if_eq (tgt := 21) (pc := 4) C dX8_flour_4 (by decide) (fun h4 => ?_) (fun h4 => ?_)
  · skip
    refine zs_iconst (pc := 21) C dX8_flour_21 (by decide) ?_
    exact zs_iret (pc := 22) C hr hlk dX8_flour_22 ⟨rfl, (by first | (rw [if_pos (by omega)]; exact hq15) | rw [if_neg (by omega)])⟩
  · skip
    refine zs_aload_n (pc := 7) C dX8_flour_7 rfl ?_
    refine zs_getf (pc := 8) C dX8_flour_8 w_X8_34 f_9_4 (by decide) ?_
    refine zs_getf (pc := 11) C dX8_flour_11 w_X8_172 f_8_1 (by decide) ?_
    refine zs_iload_n (pc := 14) C dX8_flour_14 rfl ?_
    refine zVip1 (pc := 15) C dX8_flour_15 v_X8_218 (c_X4_flourFromK hX hZ hW) (by decide) (by decide) ⟨Nat.zero_le _, Nat.zero_le _⟩ (Nat.le_of_ble_eq_true rfl) (fun x15 l15 u15 hp15 => ?_)
    have hq15 := hp15
    refine zs_goto (tgt := 22) (pc := 18) C dX8_flour_18 (by decide) ?_
    exact zs_iret (pc := 22) C hr hlk dX8_flour_22 ⟨rfl, (by first | (rw [if_pos (by omega)]; exact hq15) | rw [if_neg (by omega)])⟩

set_option maxHeartbeats 4000000 in
set_option maxRecDepth 100000 in
theorem c_X8_bakeK {l : Launch} {Γ : zΓ} {G : zH} {w t : Nat} {A W : aS} {p : Int} (hX : zXs Γ) (hZ : QQ Γ (Γ.2.1 w 4) t A W G) (hI : G.2.2 903 w = t) (hW : WI A W) (hT : TA A)  : zMet l Γ yX8_bake cX8_bake 2 (some .boolean) 3 [zr 9 w, zi p] G (zpi (fun x G' => zsm [2054, 2030, 2053, 2020, 2056, 910] G G' ∧ ((x = 0 ∨ x = 1) ∧ (x = 1 ↔ (0 ≤ p ∧ p < A 4 2) ∧ W 18 0 ≤ A 11 p.toNat ∧ wCanB A W p) ∧ QQ Γ (Γ.2.1 w 4) t A (if (0 ≤ p ∧ p < A 4 2) ∧ W 18 0 ≤ A 11 p.toNat ∧ wCanB A W p then wBake A W p else W) G' ∧ ((0 ≤ p ∧ p < A 4 2) ∧ W 18 0 ≤ A 11 p.toNat ∧ wCanB A W p → rmG w (G.1 2056 (Γ.2.1 w 9)) (G'.1 2056 (Γ.2.1 w 9)) (21 + p) G G') ∧ (¬ ((0 ≤ p ∧ p < A 4 2) ∧ W 18 0 ≤ A 11 p.toNat ∧ wCanB A W p) → rmN w (G.1 2056 (Γ.2.1 w 9)) (G'.1 2056 (Γ.2.1 w 9)) G G')))) := by
  refine zMet_of RX8 hX (by decide) rfl (Nat.le_of_ble_eq_true rfl) ?_
  intro px9 e s m args below meth c C hr hlk
  show Z px9 l e (zrm 3) s m args below meth c Γ 2 0 0 (MQ below (zQc Γ (zpi (fun x G' => zsm [2054, 2030, 2053, 2020, 2056, 910] G G' ∧ ((x = 0 ∨ x = 1) ∧ (x = 1 ↔ (0 ≤ p ∧ p < A 4 2) ∧ W 18 0 ≤ A 11 p.toNat ∧ wCanB A W p) ∧ QQ Γ (Γ.2.1 w 4) t A (if (0 ≤ p ∧ p < A 4 2) ∧ W 18 0 ≤ A 11 p.toNat ∧ wCanB A W p then wBake A W p else W) G' ∧ ((0 ≤ p ∧ p < A 4 2) ∧ W 18 0 ≤ A 11 p.toNat ∧ wCanB A W p → rmG w (G.1 2056 (Γ.2.1 w 9)) (G'.1 2056 (Γ.2.1 w 9)) (21 + p) G G') ∧ (¬ ((0 ≤ p ∧ p < A 4 2) ∧ W 18 0 ≤ A 11 p.toNat ∧ wCanB A W p) → rmN w (G.1 2056 (Γ.2.1 w 9)) (G'.1 2056 (Γ.2.1 w 9)) G G'))))) args s 0 0 (zA Γ)) 0 [some (zr 9 w), some (zi p)] [] G
  refine zs_loc 1 rfl (fun ha1 hb1 => ?_)
  have hT0 := hT.1
  refine zs_aload_n (pc := 0) C dX8_bake_0 rfl ?_
  refine zs_getd (r := 903) (pc := 1) C dX8_bake_1 w_X8_25 f_9_3 (by decide) rfl (fun v1 e1 t1 => ?_)
  rw [hI] at e1
  subst v1
  refine zs_iconst (pc := 4) C dX8_bake_4 (by decide) ?_
  refine zs_iload_n (pc := 5) C dX8_bake_5 rfl ?_
  refine zVip2 (pc := 6) C dX8_bake_6 v_X8_104 (c_X5_hasT hX hZ.2.1 (by omega)) (by decide) (by decide) ⟨Nat.zero_le _, Nat.zero_le _⟩ (Nat.le_of_ble_eq_true rfl) (fun x6 l6 u6 hp6 => ?_)
  have hq6 := hp6
  have hb6 : x6 = 1 ↔ 0 ≤ p ∧ p < A 4 2 := hq6.2
  have hc6 := hq6.1
  refine zs_if_eq (tgt := 42) (pc := 9) C dX8_bake_9 (by decide) (fun h9 => ?_) (fun h9 => ?_)
  · skip
    refine zs_iconst (pc := 42) C dX8_bake_42 (by decide) ?_
    exact zs_zret (pc := 43) C hr hlk dX8_bake_43 (by omega) (by
        have hno : ¬ ((0 ≤ p ∧ p < A 4 2) ∧ W 18 0 ≤ A 11 p.toNat ∧ wCanB A W p) := (by rintro ⟨q1, q2, q3⟩; first | (have := hb6.mpr q1; omega) | omega | (have := hb36.mpr q3; omega))
        exact ⟨by repeat (first | exact zsm_rf | assumption | refine zsm_C (by decide) ?_ | refine zsm_I (by decide) ?_ | refine zsm_J ?_ | refine zsm_c (by assumption) (by decide) ?_), ⟨Or.inl rfl, ⟨fun q => absurd q (by decide), fun q => absurd q hno⟩, (by rw [if_neg hno]; first | exact hZ | exact bk_n (fun q => by have := hb36.mpr q; omega) hZ36), fun q => absurd q hno, fun _ => (by first | exact rmN_rf | exact rmN_z hz36 (by decide))⟩⟩)
  · skip
    refine zs_aload_n (pc := 12) C dX8_bake_12 rfl ?_
    refine zs_getf (pc := 13) C dX8_bake_13 w_X8_34 f_9_4 (by decide) ?_
    refine zs_geti (r := 809) (pc := 16) C dX8_bake_16 w_X8_221 f_8_9 rfl (r_809 0) (fun v16 e16 l16 u16 => ?_)
    try simp only [QQ_809 hZ] at e16
    try subst v16
    refine zs_aload_n (pc := 19) C dX8_bake_19 rfl ?_
    refine zs_getd (r := 903) (pc := 20) C dX8_bake_20 w_X8_25 f_9_3 (by decide) rfl (fun v20 e20 t20 => ?_)
    rw [hI] at e20
    subst v20
    refine zs_getf (pc := 23) C dX8_bake_23 w_X8_224 f_6_8 (by decide) ?_
    refine zs_iload_n (pc := 26) C dX8_bake_26 rfl ?_
    refine zs_iald (r := 2043) (pc := 27) C dX8_bake_27 a_43 (by decide) (by omega) rfl (r_2043 _) (fun v27 e27 l27 u27 => ?_)
    try simp only [QQ_2043 hZ] at e27
    try subst v27
    refine zs_icmp_gt (tgt := 42) (pc := 28) C dX8_bake_28 (by decide) (fun h28 => ?_) (fun h28 => ?_)
    · skip
      refine zs_iconst (pc := 42) C dX8_bake_42 (by decide) ?_
      exact zs_zret (pc := 43) C hr hlk dX8_bake_43 (by omega) (by
          have hno : ¬ ((0 ≤ p ∧ p < A 4 2) ∧ W 18 0 ≤ A 11 p.toNat ∧ wCanB A W p) := (by rintro ⟨q1, q2, q3⟩; first | (have := hb6.mpr q1; omega) | omega | (have := hb36.mpr q3; omega))
          exact ⟨by repeat (first | exact zsm_rf | assumption | refine zsm_C (by decide) ?_ | refine zsm_I (by decide) ?_ | refine zsm_J ?_ | refine zsm_c (by assumption) (by decide) ?_), ⟨Or.inl rfl, ⟨fun q => absurd q (by decide), fun q => absurd q hno⟩, (by rw [if_neg hno]; first | exact hZ | exact bk_n (fun q => by have := hb36.mpr q; omega) hZ36), fun q => absurd q hno, fun _ => (by first | exact rmN_rf | exact rmN_z hz36 (by decide))⟩⟩)
    · skip
      refine zs_aload_n (pc := 31) C dX8_bake_31 rfl ?_
      refine zs_getf (pc := 32) C dX8_bake_32 w_X8_34 f_9_4 (by decide) ?_
      refine zs_iload_n (pc := 35) C dX8_bake_35 rfl ?_
      refine zVi1 (pc := 36) C dX8_bake_36 v_X8_227 (c_X7_bakeOneK hX hZ hW hT (by omega) (by omega)) (by decide) (by decide) ⟨Nat.zero_le _, Nat.zero_le _⟩ (Nat.le_of_ble_eq_true rfl) (fun x36 G36 l36 u36 hp36 => ?_)
      obtain ⟨hz36, hq36⟩ := hp36
      have hZ36 := hq36.1
      have hX36 := hq36.2
      have hb36 := hX36.2
      have hc36 := hX36.1
      refine zs_if_ne (tgt := 44) (pc := 39) C dX8_bake_39 (by decide) (fun h39 => ?_) (fun h39 => ?_)
      · skip
        have hcb := hb36.mp (by omega)
        have hvp : 0 ≤ p ∧ p < A 4 2 := hb6.mp (by omega)
        refine zs_aload_n (pc := 44) C dX8_bake_44 rfl ?_
        refine zs_bipush (pc := 45) C dX8_bake_45 (by decide) (by decide) ?_
        refine zs_iload_n (pc := 47) C dX8_bake_47 rfl ?_
        first | refine zs_iadd (pc := 48) C dX8_bake_48 (by omega) ?_ | refine zs_iaddF (pc := 48) C dX8_bake_48 (fun z48 hz481 hz482 => ?_)
        refine zVv1 (pc := 49) C dX8_bake_49 v_X8_169 (c_X8_rememberK hX (by omega)) (by decide) (by decide) ⟨Nat.zero_le _, Nat.zero_le _⟩ (Nat.le_of_ble_eq_true rfl) (fun G49 hp49 => ?_)
        obtain ⟨hz49, hq49⟩ := hp49
        skip
        have hZ49 : QQ Γ (Γ.2.1 w 4) t A (wBake A W p) G49 := QQ_sm hz49 (by decide) (by decide +kernel) hZ36
        have hr49 := rmG_z hz36 (by decide) hq49
        refine zs_iconst (pc := 52) C dX8_bake_52 (by decide) ?_
        exact zs_zret (pc := 53) C hr hlk dX8_bake_53 (by omega) ⟨by repeat (first | exact zsm_rf | assumption | refine zsm_C (by decide) ?_ | refine zsm_I (by decide) ?_ | refine zsm_J ?_ | refine zsm_c (by assumption) (by decide) ?_), ⟨Or.inr rfl, ⟨fun _ => ⟨hvp, by omega, hcb⟩, fun _ => rfl⟩, by rw [if_pos ⟨hvp, by omega, hcb⟩]; exact hZ49, fun _ => hr49, fun q => absurd ⟨hvp, by omega, hcb⟩ q⟩⟩
      · skip
        refine zs_iconst (pc := 42) C dX8_bake_42 (by decide) ?_
        exact zs_zret (pc := 43) C hr hlk dX8_bake_43 (by omega) (by
            have hno : ¬ ((0 ≤ p ∧ p < A 4 2) ∧ W 18 0 ≤ A 11 p.toNat ∧ wCanB A W p) := (by rintro ⟨q1, q2, q3⟩; first | (have := hb6.mpr q1; omega) | omega | (have := hb36.mpr q3; omega))
            exact ⟨by repeat (first | exact zsm_rf | assumption | refine zsm_C (by decide) ?_ | refine zsm_I (by decide) ?_ | refine zsm_J ?_ | refine zsm_c (by assumption) (by decide) ?_), ⟨Or.inl rfl, ⟨fun q => absurd q (by decide), fun q => absurd q hno⟩, (by rw [if_neg hno]; first | exact hZ | exact bk_n (fun q => by have := hb36.mpr q; omega) hZ36), fun q => absurd q hno, fun _ => (by first | exact rmN_rf | exact rmN_z hz36 (by decide))⟩⟩)

set_option maxHeartbeats 4000000 in
set_option maxRecDepth 100000 in
theorem c_X8_bakedK {l : Launch} {Γ : zΓ} {G : zH} {w t : Nat} {A W : aS} {p : Int} (hX : zXs Γ) (hZ : QQ Γ (Γ.2.1 w 4) t A W G) (hI : G.2.2 903 w = t) (hT : TA A)  : zMet l Γ yX8_baked cX8_baked 2 (some .int) 1 [zr 9 w, zi p] G (zpi (fun x G' => G' = G ∧ (x = if 0 ≤ p ∧ p < A 4 2 then (if W 16 p.toNat ≠ -1 then W 16 p.toNat else -2) else -1))) := by
  refine zMet_of RX8 hX (by decide) rfl (Nat.le_of_ble_eq_true rfl) ?_
  intro px9 e s m args below meth c C hr hlk
  show Z px9 l e (zrm 1) s m args below meth c Γ 2 0 0 (MQ below (zQc Γ (zpi (fun x G' => G' = G ∧ (x = if 0 ≤ p ∧ p < A 4 2 then (if W 16 p.toNat ≠ -1 then W 16 p.toNat else -2) else -1)))) args s 0 0 (zA Γ)) 0 [some (zr 9 w), some (zi p)] [] G
  refine zs_loc 1 rfl (fun ha1 hb1 => ?_)
  have hT0 := hT.1
  refine zs_aload_n (pc := 0) C dX8_baked_0 rfl ?_
  refine zs_getd (r := 903) (pc := 1) C dX8_baked_1 w_X8_25 f_9_3 (by decide) rfl (fun v1 e1 t1 => ?_)
  rw [hI] at e1
  subst v1
  refine zs_iconst (pc := 4) C dX8_baked_4 (by decide) ?_
  refine zs_iload_n (pc := 5) C dX8_baked_5 rfl ?_
  refine zVip2 (pc := 6) C dX8_baked_6 v_X8_104 (c_X5_hasT hX hZ.2.1 (by omega)) (by decide) (by decide) ⟨Nat.zero_le _, Nat.zero_le _⟩ (Nat.le_of_ble_eq_true rfl) (fun x6 l6 u6 hp6 => ?_)
  have hq6 := hp6
  have hb6 : x6 = 1 ↔ 0 ≤ p ∧ p < A 4 2 := hq6.2
  have hc6 := hq6.1
  refine zs_if_ne (tgt := 14) (pc := 9) C dX8_baked_9 (by decide) (fun h9 => ?_) (fun h9 => ?_)
  · skip
    refine zs_aload_n (pc := 14) C dX8_baked_14 rfl ?_
    refine zs_getf (pc := 15) C dX8_baked_15 w_X8_34 f_9_4 (by decide) ?_
    refine zs_iload_n (pc := 18) C dX8_baked_18 rfl ?_
    refine zVip1 (pc := 19) C dX8_baked_19 v_X8_230 (c_X7_isBakedK hX hZ (by omega)) (by decide) (by decide) ⟨Nat.zero_le _, Nat.zero_le _⟩ (Nat.le_of_ble_eq_true rfl) (fun x19 l19 u19 hp19 => ?_)
    have hq19 := hp19
    have hb19 := hq19.2
    have hc19 := hq19.1
    refine zs_if_eq (tgt := 37) (pc := 22) C dX8_baked_22 (by decide) (fun h22 => ?_) (fun h22 => ?_)
    · skip
      refine zs_bipush (pc := 37) C dX8_baked_37 (by decide) (by decide) ?_
      exact zs_iret (pc := 39) C hr hlk dX8_baked_39 ⟨rfl, (by first | (rw [if_neg (by omega)]) | (rw [if_pos (by omega)]; split <;> omega))⟩
    · skip
      refine zs_aload_n (pc := 25) C dX8_baked_25 rfl ?_
      refine zs_getf (pc := 26) C dX8_baked_26 w_X8_34 f_9_4 (by decide) ?_
      refine zs_getf (pc := 29) C dX8_baked_29 w_X8_233 f_8_7 (by decide) ?_
      refine zs_iload_n (pc := 32) C dX8_baked_32 rfl ?_
      refine zs_iald (r := 2053) (pc := 33) C dX8_baked_33 a_53 (by decide) (by omega) rfl (r_2053 _) (fun v33 e33 l33 u33 => ?_)
      try simp only [QQ_2053 hZ] at e33
      try subst v33
      refine zs_goto (tgt := 39) (pc := 34) C dX8_baked_34 (by decide) ?_
      exact zs_iret (pc := 39) C hr hlk dX8_baked_39 ⟨rfl, (by first | (rw [if_neg (by omega)]) | (rw [if_pos (by omega)]; split <;> omega))⟩
  · skip
    refine zs_iconst (pc := 12) C dX8_baked_12 (by decide) ?_
    exact zs_iret (pc := 13) C hr hlk dX8_baked_13 ⟨rfl, (by first | (rw [if_neg (by omega)]) | (rw [if_pos (by omega)]; split <;> omega))⟩
