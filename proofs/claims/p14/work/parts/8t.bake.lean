/-! what is baked, on both sides -/
theorem wFl_up {F H K : Nat → Int} {a d : Int} {c : Nat} (h1 : K c = H c - d) (h2 : ∀ j, j ≠ c → K j = H j) : ∀ n : Nat, wFl F K a n = wFl F H a n - (if c < n ∧ a ≤ F c then d else 0)
  | 0 => by rw [if_neg (fun q => absurd q.1 (by omega))]; rfl
  | n + 1 => by
    rw [wFl, wFl, wFl_up h1 h2 n]
    by_cases q : n = c
    · subst q
      rw [h1]
      (repeat' split) <;> omega
    · rw [h2 n q]
      (repeat' split) <;> omega
theorem wFl_99 {F H : Nat → Int} {a : Int} : ∀ n : Nat, (∀ k : Nat, k < n → 0 ≤ H k ∧ H k ≤ 99) → 0 ≤ wFl F H a n ∧ wFl F H a n ≤ 99 * n
  | 0, _ => ⟨Int.le_refl 0, Int.le_refl 0⟩
  | n + 1, h => by
    have i := wFl_99 (F := F) (a := a) n (fun k hk => h k (by omega))
    have k := h n (by omega)
    rw [wFl]
    split <;> omega
theorem wFl_no {F H : Nat → Int} {a : Int} : ∀ n : Nat, wCo F H a n = -1 → (∀ k : Nat, k < n → 0 ≤ H k) → wFl F H a n = 0
  | 0, _, _ => rfl
  | n + 1, h, hp => by
    rw [wCo] at h
    by_cases q : 0 < H n ∧ a ≤ F n ∧ (wCo F H a n = -1 ∨ F n < F (wCo F H a n).toNat)
    · rw [if_pos q] at h; omega
    · rw [if_neg q] at h
      have ih := wFl_no n h (fun k hk => hp k (by omega))
      have h9 := hp n (by omega)
      rw [wFl, ih]
      by_cases q2 : a ≤ F n
      · rw [if_pos q2]
        have : ¬ 0 < H n := fun z => q ⟨z, q2, Or.inl h⟩
        omega
      · rw [if_neg q2]; omega
/-- so many sacks are not empty -/
def wNe (H : Nat → Int) (n : Nat) : Int := zct (fun k => decide (0 < H k)) n
theorem wNe_up {H K : Nat → Int} {c : Nat} (h0 : 0 < H c) (h1 : K c = 0) (h2 : ∀ j, j ≠ c → K j = H j) : ∀ n : Nat, wNe K n = wNe H n - (if c < n then 1 else 0)
  | 0 => by rw [if_neg (by omega)]; rfl
  | n + 1 => by
    have ih := wNe_up h0 h1 h2 n
    unfold wNe at *
    rw [zct_s, zct_s, ih]
    simp only [decide_eq_true_eq]
    by_cases q : n = c
    · subst q
      (repeat' split) <;> omega
    · have h9 := h2 n q
      (repeat' split) <;> omega
theorem wNe_in {H : Nat → Int} {c : Nat} (h0 : 0 < H c) {n : Nat} (hc : c < n) : 1 ≤ wNe H n := by
  have h := zct_mono (fun k => decide (0 < H k)) (n := c + 1) (m := n) (by omega)
  have h2 := zct_le (fun k => decide (0 < H k)) c
  rw [zct_s] at h
  simp only [h0, decide_true, if_true] at h
  unfold wNe
  omega
theorem wNe_le (H : Nat → Int) (n : Nat) : 0 ≤ wNe H n ∧ wNe H n ≤ n := zct_le _ n
theorem wTk_s1 {a c : Int} {m : Nat} {x : Int × aS} (h : 0 < x.1 ∧ wCo (x.2 3) (x.2 5) a (x.2 0 0).toNat ≠ -1) : wTk a c (m + 1) x = wTk a c m (wTs a c x) := by
  rw [wTk, if_pos h]
  rfl

set_option maxHeartbeats 4000000 in
set_option maxRecDepth 100000 in
theorem c_X9_canBakeW0 {l : Launch} {Γ : zΓ} {G : zH} {w : Nat} {c : Int} {A W : aS}  (hX : zXs Γ) (hc : 0 ≤ c ∧ c < A 4 2) (hR : rW Γ w 0 W G) (hK : kR Γ w A G) (hW : WI A W) (hT : TA A)  : zMet l Γ yX9_canBake cX9_canBake 3 (some .boolean) 1 [zr 10 w, zi 0, zi c] G (zpi (fun x G' => G' = G ∧ ((x = 0 ∨ x = 1) ∧ (x = 1 ↔ W 18 0 ≤ A 11 c.toNat ∧ wCanB A W c)))) := by
  refine zMet_of RX9 hX (by decide) rfl (Nat.le_of_ble_eq_true rfl) ?_
  intro p e s m args below meth cx9 C hr hlk
  show Z p l e (zrm 1) s m args below meth cx9 Γ 3 0 0 (MQ below (zQc Γ (zpi (fun x G' => G' = G ∧ ((x = 0 ∨ x = 1) ∧ (x = 1 ↔ W 18 0 ≤ A 11 c.toNat ∧ wCanB A W c))))) args s 0 0 (zA Γ)) 0 [some (zr 10 w), some (zi 0), some (zi c)] [] G
  refine zs_loc 2 rfl (fun ha2 hb2 => ?_)
  have hT0 := hT.1
  obtain ⟨rA, rB, ⟨r1, r2, r3, r4⟩, rC⟩ := id hR
  have kC := hK.2.2.2.2.2.2.1 c.toNat (by omega)
  have rBc := rB c.toNat (by omega)
  rw [show (5 * 0 + (c.toNat : Int)).toNat = (5 * 0 + c).toNat by omega] at rBc
  have hW4 := hW.2.2.2.2.1 c.toNat (by omega)
  refine zs_aload_n (pc := 0) C dX9_canBake_0 rfl ?_
  refine zs_getf (pc := 1) C dX9_canBake_1 w_X9_103 f_10_56 (by decide) ?_
  refine zs_iconst (pc := 4) C dX9_canBake_4 (by decide) ?_
  refine zs_iload_n (pc := 5) C dX9_canBake_5 rfl ?_
  first | refine zs_imul (pc := 6) C dX9_canBake_6 (by omega) ?_ | refine zs_imulF (pc := 6) C dX9_canBake_6 (fun z6 hz61 hz62 => ?_)
  refine zs_iload_n (pc := 7) C dX9_canBake_7 rfl ?_
  first | refine zs_iadd (pc := 8) C dX9_canBake_8 (by omega) ?_ | refine zs_iaddF (pc := 8) C dX9_canBake_8 (fun z8 hz81 hz82 => ?_)
  refine zs_iald (r := 2086) (pc := 9) C dX9_canBake_9 a_86 (by decide) (by omega) rfl (r_2086 _) (fun v9 e9 l9 u9 => ?_)
  have y9 : v9 = (if W 16 c.toNat = -1 then -2 else W 16 c.toNat) := e9.trans rBc.2.2.2
  have y9n : v9 < 0 ↔ W 16 c.toNat = -1 := by rw [y9]; split <;> omega
  refine zs_if_ge (tgt := 52) (pc := 10) C dX9_canBake_10 (by decide) (fun h10 => ?_) (fun h10 => ?_)
  · skip
    refine zs_iconst (pc := 52) C dX9_canBake_52 (by decide) ?_
    exact zs_zret (pc := 53) C hr hlk dX9_canBake_53 (by omega) ⟨rfl, (by unfold wCanB; refine ⟨by omega, ?_⟩; constructor; (intro hq; first | (exfalso; omega) | exact ⟨by omega, by omega, by omega⟩); (rintro ⟨q1, q2, q3⟩; first | rfl | (exfalso; omega)))⟩
  · skip
    refine zs_aload_n (pc := 13) C dX9_canBake_13 rfl ?_
    refine zs_getf (pc := 14) C dX9_canBake_14 w_X9_115 f_10_60 (by decide) ?_
    refine zs_iload_n (pc := 17) C dX9_canBake_17 rfl ?_
    refine zs_iald (r := 2090) (pc := 18) C dX9_canBake_18 a_90 (by decide) (by omega) rfl (r_2090 _) (fun v18 e18 l18 u18 => ?_)
    refine zs_aload_n (pc := 19) C dX9_canBake_19 rfl ?_
    refine zs_getf (pc := 20) C dX9_canBake_20 w_X9_51 f_10_32 (by decide) ?_
    refine zs_iload_n (pc := 23) C dX9_canBake_23 rfl ?_
    refine zs_iald (r := 2069) (pc := 24) C dX9_canBake_24 a_69 (by decide) (by omega) rfl (r_2069 _) (fun v24 e24 l24 u24 => ?_)
    have y18 : v18 = W 18 0 := e18.trans r4
    have y24 : v24 = A 11 c.toNat := e24.trans kC.2.2.2
    refine zs_icmp_gt (tgt := 52) (pc := 25) C dX9_canBake_25 (by decide) (fun h25 => ?_) (fun h25 => ?_)
    · skip
      refine zs_iconst (pc := 52) C dX9_canBake_52 (by decide) ?_
      exact zs_zret (pc := 53) C hr hlk dX9_canBake_53 (by omega) ⟨rfl, (by unfold wCanB; refine ⟨by omega, ?_⟩; constructor; (intro hq; first | (exfalso; omega) | exact ⟨by omega, by omega, by omega⟩); (rintro ⟨q1, q2, q3⟩; first | rfl | (exfalso; omega)))⟩
    · skip
      refine zs_aload_n (pc := 28) C dX9_canBake_28 rfl ?_
      refine zs_iload_n (pc := 29) C dX9_canBake_29 rfl ?_
      refine zs_aload_n (pc := 30) C dX9_canBake_30 rfl ?_
      refine zs_getf (pc := 31) C dX9_canBake_31 w_X9_45 f_10_30 (by decide) ?_
      refine zs_iload_n (pc := 34) C dX9_canBake_34 rfl ?_
      refine zs_iald (r := 2067) (pc := 35) C dX9_canBake_35 a_67 (by decide) (by omega) rfl (r_2067 _) (fun v35 e35 l35 u35 => ?_)
      have y35 : v35 = A 9 c.toNat := e35.trans kC.2.1
      subst y35
      refine zVip2 (pc := 36) C dX9_canBake_36 v_X9_468 (c_X9_flourOfW hX (Or.inl rfl) hR hW) (by decide) (by decide) ⟨Nat.zero_le _, Nat.zero_le _⟩ (Nat.le_of_ble_eq_true rfl) (fun x36 l36 u36 hp36 => ?_)
      have hq36 := hp36
      refine zs_aload_n (pc := 39) C dX9_canBake_39 rfl ?_
      refine zs_getf (pc := 40) C dX9_canBake_40 w_X9_48 f_10_31 (by decide) ?_
      refine zs_iload_n (pc := 43) C dX9_canBake_43 rfl ?_
      refine zs_iald (r := 2068) (pc := 44) C dX9_canBake_44 a_68 (by decide) (by omega) rfl (r_2068 _) (fun v44 e44 l44 u44 => ?_)
      have y44 : v44 = A 10 c.toNat := e44.trans kC.2.2.1
      refine zs_icmp_lt (tgt := 52) (pc := 45) C dX9_canBake_45 (by decide) (fun h45 => ?_) (fun h45 => ?_)
      · skip
        refine zs_iconst (pc := 52) C dX9_canBake_52 (by decide) ?_
        exact zs_zret (pc := 53) C hr hlk dX9_canBake_53 (by omega) ⟨rfl, (by unfold wCanB; refine ⟨by omega, ?_⟩; constructor; (intro hq; first | (exfalso; omega) | exact ⟨by omega, by omega, by omega⟩); (rintro ⟨q1, q2, q3⟩; first | rfl | (exfalso; omega)))⟩
      · skip
        refine zs_iconst (pc := 48) C dX9_canBake_48 (by decide) ?_
        refine zs_goto (tgt := 53) (pc := 49) C dX9_canBake_49 (by decide) ?_
        exact zs_zret (pc := 53) C hr hlk dX9_canBake_53 (by omega) ⟨rfl, (by unfold wCanB; refine ⟨by omega, ?_⟩; constructor; (intro hq; first | (exfalso; omega) | exact ⟨by omega, by omega, by omega⟩); (rintro ⟨q1, q2, q3⟩; first | rfl | (exfalso; omega)))⟩

set_option maxHeartbeats 4000000 in
set_option maxRecDepth 100000 in
theorem c_X9_canBakeW1 {l : Launch} {Γ : zΓ} {G : zH} {w : Nat} {c : Int} {A W : aS}  (hX : zXs Γ) (hc : 0 ≤ c ∧ c < A 4 2) (hR : rW Γ w 1 W G) (hK : kR Γ w A G) (hW : WI A W) (hT : TA A)  : zMet l Γ yX9_canBake cX9_canBake 3 (some .boolean) 1 [zr 10 w, zi 1, zi c] G (zpi (fun x G' => G' = G ∧ ((x = 0 ∨ x = 1) ∧ (x = 1 ↔ W 18 0 ≤ A 11 c.toNat ∧ wCanB A W c)))) := by
  refine zMet_of RX9 hX (by decide) rfl (Nat.le_of_ble_eq_true rfl) ?_
  intro p e s m args below meth cx9 C hr hlk
  show Z p l e (zrm 1) s m args below meth cx9 Γ 3 0 0 (MQ below (zQc Γ (zpi (fun x G' => G' = G ∧ ((x = 0 ∨ x = 1) ∧ (x = 1 ↔ W 18 0 ≤ A 11 c.toNat ∧ wCanB A W c))))) args s 0 0 (zA Γ)) 0 [some (zr 10 w), some (zi 1), some (zi c)] [] G
  refine zs_loc 2 rfl (fun ha2 hb2 => ?_)
  have hT0 := hT.1
  obtain ⟨rA, rB, ⟨r1, r2, r3, r4⟩, rC⟩ := id hR
  have kC := hK.2.2.2.2.2.2.1 c.toNat (by omega)
  have rBc := rB c.toNat (by omega)
  rw [show (5 * 1 + (c.toNat : Int)).toNat = (5 * 1 + c).toNat by omega] at rBc
  have hW4 := hW.2.2.2.2.1 c.toNat (by omega)
  refine zs_aload_n (pc := 0) C dX9_canBake_0 rfl ?_
  refine zs_getf (pc := 1) C dX9_canBake_1 w_X9_103 f_10_56 (by decide) ?_
  refine zs_iconst (pc := 4) C dX9_canBake_4 (by decide) ?_
  refine zs_iload_n (pc := 5) C dX9_canBake_5 rfl ?_
  first | refine zs_imul (pc := 6) C dX9_canBake_6 (by omega) ?_ | refine zs_imulF (pc := 6) C dX9_canBake_6 (fun z6 hz61 hz62 => ?_)
  refine zs_iload_n (pc := 7) C dX9_canBake_7 rfl ?_
  first | refine zs_iadd (pc := 8) C dX9_canBake_8 (by omega) ?_ | refine zs_iaddF (pc := 8) C dX9_canBake_8 (fun z8 hz81 hz82 => ?_)
  refine zs_iald (r := 2086) (pc := 9) C dX9_canBake_9 a_86 (by decide) (by omega) rfl (r_2086 _) (fun v9 e9 l9 u9 => ?_)
  have y9 : v9 = (if W 16 c.toNat = -1 then -2 else W 16 c.toNat) := e9.trans rBc.2.2.2
  have y9n : v9 < 0 ↔ W 16 c.toNat = -1 := by rw [y9]; split <;> omega
  refine zs_if_ge (tgt := 52) (pc := 10) C dX9_canBake_10 (by decide) (fun h10 => ?_) (fun h10 => ?_)
  · skip
    refine zs_iconst (pc := 52) C dX9_canBake_52 (by decide) ?_
    exact zs_zret (pc := 53) C hr hlk dX9_canBake_53 (by omega) ⟨rfl, (by unfold wCanB; refine ⟨by omega, ?_⟩; constructor; (intro hq; first | (exfalso; omega) | exact ⟨by omega, by omega, by omega⟩); (rintro ⟨q1, q2, q3⟩; first | rfl | (exfalso; omega)))⟩
  · skip
    refine zs_aload_n (pc := 13) C dX9_canBake_13 rfl ?_
    refine zs_getf (pc := 14) C dX9_canBake_14 w_X9_115 f_10_60 (by decide) ?_
    refine zs_iload_n (pc := 17) C dX9_canBake_17 rfl ?_
    refine zs_iald (r := 2090) (pc := 18) C dX9_canBake_18 a_90 (by decide) (by omega) rfl (r_2090 _) (fun v18 e18 l18 u18 => ?_)
    refine zs_aload_n (pc := 19) C dX9_canBake_19 rfl ?_
    refine zs_getf (pc := 20) C dX9_canBake_20 w_X9_51 f_10_32 (by decide) ?_
    refine zs_iload_n (pc := 23) C dX9_canBake_23 rfl ?_
    refine zs_iald (r := 2069) (pc := 24) C dX9_canBake_24 a_69 (by decide) (by omega) rfl (r_2069 _) (fun v24 e24 l24 u24 => ?_)
    have y18 : v18 = W 18 0 := e18.trans r4
    have y24 : v24 = A 11 c.toNat := e24.trans kC.2.2.2
    refine zs_icmp_gt (tgt := 52) (pc := 25) C dX9_canBake_25 (by decide) (fun h25 => ?_) (fun h25 => ?_)
    · skip
      refine zs_iconst (pc := 52) C dX9_canBake_52 (by decide) ?_
      exact zs_zret (pc := 53) C hr hlk dX9_canBake_53 (by omega) ⟨rfl, (by unfold wCanB; refine ⟨by omega, ?_⟩; constructor; (intro hq; first | (exfalso; omega) | exact ⟨by omega, by omega, by omega⟩); (rintro ⟨q1, q2, q3⟩; first | rfl | (exfalso; omega)))⟩
    · skip
      refine zs_aload_n (pc := 28) C dX9_canBake_28 rfl ?_
      refine zs_iload_n (pc := 29) C dX9_canBake_29 rfl ?_
      refine zs_aload_n (pc := 30) C dX9_canBake_30 rfl ?_
      refine zs_getf (pc := 31) C dX9_canBake_31 w_X9_45 f_10_30 (by decide) ?_
      refine zs_iload_n (pc := 34) C dX9_canBake_34 rfl ?_
      refine zs_iald (r := 2067) (pc := 35) C dX9_canBake_35 a_67 (by decide) (by omega) rfl (r_2067 _) (fun v35 e35 l35 u35 => ?_)
      have y35 : v35 = A 9 c.toNat := e35.trans kC.2.1
      subst y35
      refine zVip2 (pc := 36) C dX9_canBake_36 v_X9_468 (c_X9_flourOfW hX (Or.inr rfl) hR hW) (by decide) (by decide) ⟨Nat.zero_le _, Nat.zero_le _⟩ (Nat.le_of_ble_eq_true rfl) (fun x36 l36 u36 hp36 => ?_)
      have hq36 := hp36
      refine zs_aload_n (pc := 39) C dX9_canBake_39 rfl ?_
      refine zs_getf (pc := 40) C dX9_canBake_40 w_X9_48 f_10_31 (by decide) ?_
      refine zs_iload_n (pc := 43) C dX9_canBake_43 rfl ?_
      refine zs_iald (r := 2068) (pc := 44) C dX9_canBake_44 a_68 (by decide) (by omega) rfl (r_2068 _) (fun v44 e44 l44 u44 => ?_)
      have y44 : v44 = A 10 c.toNat := e44.trans kC.2.2.1
      refine zs_icmp_lt (tgt := 52) (pc := 45) C dX9_canBake_45 (by decide) (fun h45 => ?_) (fun h45 => ?_)
      · skip
        refine zs_iconst (pc := 52) C dX9_canBake_52 (by decide) ?_
        exact zs_zret (pc := 53) C hr hlk dX9_canBake_53 (by omega) ⟨rfl, (by unfold wCanB; refine ⟨by omega, ?_⟩; constructor; (intro hq; first | (exfalso; omega) | exact ⟨by omega, by omega, by omega⟩); (rintro ⟨q1, q2, q3⟩; first | rfl | (exfalso; omega)))⟩
      · skip
        refine zs_iconst (pc := 48) C dX9_canBake_48 (by decide) ?_
        refine zs_goto (tgt := 53) (pc := 49) C dX9_canBake_49 (by decide) ?_
        exact zs_zret (pc := 53) C hr hlk dX9_canBake_53 (by omega) ⟨rfl, (by unfold wCanB; refine ⟨by omega, ?_⟩; constructor; (intro hq; first | (exfalso; omega) | exact ⟨by omega, by omega, by omega⟩); (rintro ⟨q1, q2, q3⟩; first | rfl | (exfalso; omega)))⟩

set_option maxHeartbeats 4000000 in
set_option maxRecDepth 100000 in
theorem c_X9_bakesW0 {l : Launch} {Γ : zΓ} {G : zH} {w : Nat} {c : Int} {A W : aS}  (hX : zXs Γ) (hc : 0 ≤ c ∧ c < A 4 2) (hR : rW Γ w 0 W G) (hK : kR Γ w A G) (hW : WI A W) (hT : TA A) (hcb : wCanB A W c)  : zMet l Γ yX9_bakes cX9_bakes 7 none 0 [zr 10 w, zi 0, zi c] G (zpv (fun G' => zsm [2094, 2086, 1073] G G' ∧ (rW Γ w 0 (wBake A W c) G' ∧ G'.1 1073 w 0 = G.1 1073 w 0 + 0 ∧ G'.2.1 = G.2.1))) := by
  refine zMet_of RX9 hX (by decide) rfl (Nat.le_of_ble_eq_true rfl) ?_
  intro p e s m args below meth cx9 C hr hlk
  show Z p l e (zrm 0) s m args below meth cx9 Γ 7 0 0 (MQ below (zQc Γ (zpv (fun G' => zsm [2094, 2086, 1073] G G' ∧ (rW Γ w 0 (wBake A W c) G' ∧ G'.1 1073 w 0 = G.1 1073 w 0 + 0 ∧ G'.2.1 = G.2.1)))) args s 0 0 (zA Γ)) 0 [some (zr 10 w), some (zi 0), some (zi c), none, none, none, none] [] G
  refine zs_loc 2 rfl (fun ha2 hb2 => ?_)
  have hT0 := hT.1
  have h00 := hW.1
  have h18 := hW.2.2.2.2.2.1
  obtain ⟨rA, rB, ⟨r1, r2, r3, r4⟩, rC⟩ := id hR
  have kC := hK.2.2.2.2.2.2.1 c.toNat (by omega)
  have hck := hT.2.2.2.2.1 c.toNat (by omega)
  have hV : wBake A W c = up (wTk (A 9 c.toNat) c 60 (A 10 c.toNat, wTk0 W c 60)).2 16 c.toNat (W 18 0) := by unfold wBake; rw [if_pos hcb]
  refine zs_aload_n (pc := 0) C dX9_bakes_0 rfl ?_
  refine zs_getf (pc := 1) C dX9_bakes_1 w_X9_48 f_10_31 (by decide) ?_
  refine zs_iload_n (pc := 4) C dX9_bakes_4 rfl ?_
  refine zs_iald (r := 2068) (pc := 5) C dX9_bakes_5 a_68 (by decide) (by omega) rfl (r_2068 _) (fun v5 e5 l5 u5 => ?_)
  have y5a : v5 = A 10 c.toNat := e5.trans kC.2.2.1
  subst y5a
  refine zs_istore_n (pc := 6) C dX9_bakes_6 (by decide) ?_
  dsimp only [zset, zclr, znone]
  have L7 : ∀ (nn : Nat) (x3 : Int) (G1 : zH) (X : aS) (k9 : Nat), (0 ≤ x3 ∧ x3 ≤ 99) → (zsm [2094, 2086, 1073] G G1) → (rK Γ w 0 X G1 (W 0 0)) → (wTk (A 9 c.toNat) c k9 (x3, X) = wTk (A 9 c.toNat) c 60 (A 10 c.toNat, wTk0 W c 60)) → (∀ f j : Nat, f ≠ 5 → f ≠ 17 → X f j = W f j) → (x3 = 0 ∨ wNe (X 5) (W 0 0).toNat ≤ k9) → (x3 ≤ wFl (W 3) (X 5) (A 9 c.toNat) (W 0 0).toNat) → (∀ k : Nat, (k : Int) < W 0 0 → 0 ≤ X 5 k ∧ X 5 k ≤ 99) → (G1.1 1073 w 0 = G.1 1073 w 0 + 0) → (G1.1 2086 = G.1 2086) → (G1.2.1 = G.2.1) → x3.toNat < nn → Z p l e (zrm 0) s m args below meth cx9 Γ 7 0 0 (MQ below (zQc Γ (zpv (fun G' => zsm [2094, 2086, 1073] G G' ∧ (rW Γ w 0 (wBake A W c) G' ∧ G'.1 1073 w 0 = G.1 1073 w 0 + 0 ∧ G'.2.1 = G.2.1)))) args s 0 0 (zA Γ)) 7 [some (zr 10 w), some (zi 0), some (zi c), some (zi x3), none, none, none] [] G1 := by
    intro nn
    induction nn with
    | zero => intro x3 G1 X k9 h7_0 h7_1 h7_2 h7_3 h7_4 h7_5 h7_6 h7_7 h7_8 h7_9 h7_10 hm; exact absurd hm (Nat.not_lt_zero _)
    | succ nn ih7 =>
      intro x3 G1 X k9 h7_0 h7_1 h7_2 h7_3 h7_4 h7_5 h7_6 h7_7 h7_8 h7_9 h7_10 hm7
      have eX3 : X 3 = W 3 := funext (fun j => h7_4 3 j (by decide) (by decide))
      have eX0 : X 0 0 = W 0 0 := h7_4 0 0 (by decide) (by decide)
      have r17 : G1.1 2087 (Γ.2.1 w 57) (0 : Int).toNat = W 0 0 := by rw [h7_1.1 2087 (by decide)]; exact r1
      have q67 : G1.1 2067 (Γ.2.1 w 30) c.toNat = A 9 c.toNat := by rw [h7_1.1 2067 (by decide)]; exact kC.2.1
      refine zs_iload_n (pc := 7) C dX9_bakes_7 rfl ?_
      refine zs_if_le (tgt := 176) (pc := 8) C dX9_bakes_8 (by decide) (fun h8 => ?_) (fun h8 => ?_)
      · skip
        have hx30 : x3 = 0 := by omega
        have hfin : wTk (A 9 c.toNat) c 60 (A 10 c.toNat, wTk0 W c 60) = (x3, X) := by rw [← h7_3]; exact wTk_e (fun q => by have q1 : 0 < x3 := q.1; omega) k9
        refine zs_aload_n (pc := 176) C dX9_bakes_176 rfl ?_
        refine zs_getf (pc := 177) C dX9_bakes_177 w_X9_103 f_10_56 (by decide) ?_
        refine zs_iconst (pc := 180) C dX9_bakes_180 (by decide) ?_
        refine zs_iload_n (pc := 181) C dX9_bakes_181 rfl ?_
        first | refine zs_imul (pc := 182) C dX9_bakes_182 (by omega) ?_ | refine zs_imulF (pc := 182) C dX9_bakes_182 (fun z182 hz1821 hz1822 => ?_)
        refine zs_iload_n (pc := 183) C dX9_bakes_183 rfl ?_
        first | refine zs_iadd (pc := 184) C dX9_bakes_184 (by omega) ?_ | refine zs_iaddF (pc := 184) C dX9_bakes_184 (fun z184 hz1841 hz1842 => ?_)
        refine zs_aload_n (pc := 185) C dX9_bakes_185 rfl ?_
        refine zs_getf (pc := 186) C dX9_bakes_186 w_X9_115 f_10_60 (by decide) ?_
        refine zs_iload_n (pc := 189) C dX9_bakes_189 rfl ?_
        refine zs_iald (r := 2090) (pc := 190) C dX9_bakes_190 a_90 (by decide) (by omega) rfl (r_2090 _) (fun v190 e190 l190 u190 => ?_)
        have y190 : v190 = W 18 0 := by rw [e190, h7_1.1 2090 (by decide)]; exact r4
        refine zs_iast (r := 2086) (pc := 191) C dX9_bakes_191 a_86 (by decide) (by omega) rfl (r_2086 _) (by omega) ?_
        exact zs_vret (pc := 192) C hr hlk dX9_bakes_192 ⟨(by repeat (first | exact zsm_rf | assumption | refine zsm_I (by decide) ?_)), ⟨⟨(fun j hj => by rw [show (wBake A W c) 11 j = W 11 j from (by rw [hV, hfin]; show (up X 16 c.toNat (W 18 0)) 11 j = _; rw [up_f (by decide)]; exact h7_4 11 j (by decide) (by decide)), show (wBake A W c) 12 j = W 12 j from (by rw [hV, hfin]; show (up X 16 c.toNat (W 18 0)) 12 j = _; rw [up_f (by decide)]; exact h7_4 12 j (by decide) (by decide))]; simp only [zuI_1, zuI_2, zuJ_1, zuJ_2, zuJ_3, zuP_1, zuP_2, zuP_3, zuC_1, zuC_2, reduceIte, Nat.reduceEqDiff, false_and, and_false, true_and, and_true, and_self, or_true, true_or, or_false, false_or, h7_1.1 2081 (by decide), h7_1.1 2082 (by decide)]; exact rA j hj), (fun j hj => by have q9 := rB j hj; rw [hV, hfin]; show _ = (up X 16 c.toNat (W 18 0)) 13 j ∧ _ = (up X 16 c.toNat (W 18 0)) 14 j ∧ _ = (up X 16 c.toNat (W 18 0)) 15 j ∧ _ = (if (up X 16 c.toNat (W 18 0)) 16 j = -1 then -2 else (up X 16 c.toNat (W 18 0)) 16 j); rw [up_f (by decide), up_f (by decide), up_f (by decide), up_at, h7_4 13 j (by decide) (by decide), h7_4 14 j (by decide) (by decide), h7_4 15 j (by decide) (by decide), h7_4 16 j (by decide) (by decide)]; refine ⟨by simp only [zuI_1, zuI_2, zuJ_1, zuJ_2, zuJ_3, zuP_1, zuP_2, zuP_3, zuC_1, zuC_2, reduceIte, Nat.reduceEqDiff, false_and, and_false, true_and, and_true, and_self, or_true, true_or, or_false, false_or, h7_1.1 2083 (by decide)]; exact q9.1, by simp only [zuI_1, zuI_2, zuJ_1, zuJ_2, zuJ_3, zuP_1, zuP_2, zuP_3, zuC_1, zuC_2, reduceIte, Nat.reduceEqDiff, false_and, and_false, true_and, and_true, and_self, or_true, true_or, or_false, false_or, h7_1.1 2084 (by decide)]; exact q9.2.1, by simp only [zuI_1, zuI_2, zuJ_1, zuJ_2, zuJ_3, zuP_1, zuP_2, zuP_3, zuC_1, zuC_2, reduceIte, Nat.reduceEqDiff, false_and, and_false, true_and, and_true, and_self, or_true, true_or, or_false, false_or, h7_1.1 2085 (by decide)]; exact q9.2.2.1, ?_⟩; by_cases q : j = c.toNat; (rw [if_pos q, if_neg (by omega)]; simp only [zuI_1, zuI_2, zuJ_1, zuJ_2, zuJ_3, zuP_1, zuP_2, zuP_3, zuC_1, zuC_2, reduceIte, Nat.reduceEqDiff, false_and, and_false, true_and, and_true, and_self, or_true, true_or, or_false, false_or]; rw [if_pos (by omega)]; omega); (rw [if_neg q]; simp only [zuI_1, zuI_2, zuJ_1, zuJ_2, zuJ_3, zuP_1, zuP_2, zuP_3, zuC_1, zuC_2, reduceIte, Nat.reduceEqDiff, false_and, and_false, true_and, and_true, and_self, or_true, true_or, or_false, false_or]; rw [if_neg (by omega), h7_9]; exact q9.2.2.2)), (by rw [show (wBake A W c) 0 0 = W 0 0 from (by rw [hV, hfin]; show (up X 16 c.toNat (W 18 0)) 0 0 = _; rw [up_f (by decide)]; exact h7_4 0 0 (by decide) (by decide)), show (wBake A W c) 19 0 = W 19 0 from (by rw [hV, hfin]; show (up X 16 c.toNat (W 18 0)) 19 0 = _; rw [up_f (by decide)]; exact h7_4 19 0 (by decide) (by decide)), show (wBake A W c) 20 0 = W 20 0 from (by rw [hV, hfin]; show (up X 16 c.toNat (W 18 0)) 20 0 = _; rw [up_f (by decide)]; exact h7_4 20 0 (by decide) (by decide)), show (wBake A W c) 18 0 = W 18 0 from (by rw [hV, hfin]; show (up X 16 c.toNat (W 18 0)) 18 0 = _; rw [up_f (by decide)]; exact h7_4 18 0 (by decide) (by decide))]; simp only [zuI_1, zuI_2, zuJ_1, zuJ_2, zuJ_3, zuP_1, zuP_2, zuP_3, zuC_1, zuC_2, reduceIte, Nat.reduceEqDiff, false_and, and_false, true_and, and_true, and_self, or_true, true_or, or_false, false_or, h7_1.1 2087 (by decide), h7_1.1 2088 (by decide), h7_1.1 2089 (by decide), h7_1.1 2090 (by decide)]; exact ⟨r1, r2, r3, r4⟩), (by rw [show (wBake A W c) 0 0 = W 0 0 from (by rw [hV, hfin]; show (up X 16 c.toNat (W 18 0)) 0 0 = _; rw [up_f (by decide)]; exact h7_4 0 0 (by decide) (by decide))]; exact fun k hk => (by rw [show (wBake A W c) 3 k = X 3 k from (by rw [hV, hfin]; exact up_f (by decide)), show (wBake A W c) 5 k = X 5 k from (by rw [hV, hfin]; exact up_f (by decide))]; simp only [zuI_1, zuI_2, zuJ_1, zuJ_2, zuJ_3, zuP_1, zuP_2, zuP_3, zuC_1, zuC_2, reduceIte, Nat.reduceEqDiff, false_and, and_false, true_and, and_true, and_self, or_true, true_or, or_false, false_or]; exact h7_2 k hk))⟩, (by simp only [zuI_1, zuI_2, zuJ_1, zuJ_2, zuJ_3, zuP_1, zuP_2, zuP_3, zuC_1, zuC_2, reduceIte, Nat.reduceEqDiff, false_and, and_false, true_and, and_true, and_self, or_true, true_or, or_false, false_or]; exact h7_8), h7_10⟩⟩
      · skip
        refine zs_iconst (pc := 11) C dX9_bakes_11 (by decide) ?_
        refine zs_istore (pc := 12) C dX9_bakes_12 (by decide) ?_
        dsimp only [zset, zclr, znone]
        refine zs_iconst (pc := 14) C dX9_bakes_14 (by decide) ?_
        refine zs_istore (pc := 15) C dX9_bakes_15 (by decide) ?_
        dsimp only [zset, zclr, znone]
        have L17 : ∀ (nn : Nat) (x4 x5 : Int), (0 ≤ x5 ∧ x5 ≤ W 0 0) → ((x4 = -1 ∧ wCo (X 3) (X 5) (A 9 c.toNat) x5.toNat = -1) ∨ (wCo (X 3) (X 5) (A 9 c.toNat) x5.toNat ≠ -1 ∧ x4 = 60 * 0 + wCo (X 3) (X 5) (A 9 c.toNat) x5.toNat ∧ 60 * 0 ≤ x4 ∧ x4 < 60 * 0 + x5)) → (60 - x5).toNat < nn → Z p l e (zrm 0) s m args below meth cx9 Γ 7 0 0 (MQ below (zQc Γ (zpv (fun G' => zsm [2094, 2086, 1073] G G' ∧ (rW Γ w 0 (wBake A W c) G' ∧ G'.1 1073 w 0 = G.1 1073 w 0 + 0 ∧ G'.2.1 = G.2.1)))) args s 0 0 (zA Γ)) 17 [some (zr 10 w), some (zi 0), some (zi c), some (zi x3), some (zi x4), some (zi x5), none] [] G1 := by
          intro nn
          induction nn with
          | zero => intro x4 x5 h17_0 h17_1 hm; exact absurd hm (Nat.not_lt_zero _)
          | succ nn ih17 =>
            intro x4 x5 h17_0 h17_1 hm17
            refine zs_iload (pc := 17) C dX9_bakes_17 rfl ?_
            refine zs_aload_n (pc := 19) C dX9_bakes_19 rfl ?_
            refine zs_getf (pc := 20) C dX9_bakes_20 w_X9_106 f_10_57 (by decide) ?_
            refine zs_iload_n (pc := 23) C dX9_bakes_23 rfl ?_
            refine zs_iald (r := 2087) (pc := 24) C dX9_bakes_24 a_87 (by decide) (by omega) rfl (r_2087 _) (fun v24 e24 l24 u24 => ?_)
            refine zs_icmp_ge (tgt := 98) (pc := 25) C dX9_bakes_25 (by decide) (fun h25 => ?_) (fun h25 => ?_)
            · skip
              refine zs_loc 3 rfl (fun hx3a hx3b => ?_)
              have hx5 : x5 = W 0 0 := by omega
              rw [hx5] at h17_1
              have hnn : wCo (X 3) (X 5) (A 9 c.toNat) (W 0 0).toNat ≠ -1 := fun q => by
                have q2 := wFl_no (F := X 3) (H := X 5) (a := A 9 c.toNat) (W 0 0).toNat q (fun k hk => (h7_7 k (by omega)).1)
                rw [eX3] at q2
                omega
              have h9 := h17_1.resolve_left (fun q => hnn q.2)
              have hco := (wCo_in (F := X 3) (H := X 5) (a := A 9 c.toNat) (W 0 0).toNat).resolve_left hnn
              generalize hcg : wCo (X 3) (X 5) (A 9 c.toNat) (W 0 0).toNat = co at *
              have hr9 := h7_2 co.toNat (by omega)
              rw [show (60 * 0 + (co.toNat : Int)).toNat = x4.toNat by omega] at hr9
              have hk9 := h7_7 co.toNat (by omega)
              refine zs_aload_n (pc := 98) C dX9_bakes_98 rfl ?_
              refine zs_getf (pc := 99) C dX9_bakes_99 w_X9_127 f_10_65 (by decide) ?_
              refine zs_iload (pc := 102) C dX9_bakes_102 rfl ?_
              refine zs_iald (r := 2094) (pc := 104) C dX9_bakes_104 a_94 (by decide) (by omega) rfl (r_2094 _) (fun v104 e104 l104 u104 => ?_)
              have y104 : v104 = X 5 co.toNat := e104.trans hr9.2
              refine zs_iload_n (pc := 105) C dX9_bakes_105 rfl ?_
              have J120 : ∀ (y5 : Int), (y5 = min x3 (X 5 co.toNat)) → Z p l e (zrm 0) s m args below meth cx9 Γ 7 0 0 (MQ below (zQc Γ (zpv (fun G' => zsm [2094, 2086, 1073] G G' ∧ (rW Γ w 0 (wBake A W c) G' ∧ G'.1 1073 w 0 = G.1 1073 w 0 + 0 ∧ G'.2.1 = G.2.1)))) args s 0 0 (zA Γ)) 120 [some (zr 10 w), some (zi 0), some (zi c), some (zi x3), some (zi x4), none, none] [zi y5] G1 := by
                intro y5 h120_0
                refine zs_istore (pc := 120) C dX9_bakes_120 (by decide) ?_
                dsimp only [zset, zclr, znone]
                refine zs_aload_n (pc := 122) C dX9_bakes_122 rfl ?_
                refine zs_getf (pc := 123) C dX9_bakes_123 w_X9_127 f_10_65 (by decide) ?_
                refine zs_iload (pc := 126) C dX9_bakes_126 rfl ?_
                refine zs_dup2 (pc := 128) C dX9_bakes_128 ?_
                refine zs_iald (r := 2094) (pc := 129) C dX9_bakes_129 a_94 (by decide) (by omega) rfl (r_2094 _) (fun v129 e129 l129 u129 => ?_)
                refine zs_iload (pc := 130) C dX9_bakes_130 rfl ?_
                have y129 : v129 = X 5 co.toNat := e129.trans hr9.2
                have hcn : co ≠ -1 := by omega
                obtain ⟨t1, t2, t3, t4⟩ := wTs_ev (A 9 c.toNat) c (x3, X) hc.1 (by show 0 ≤ wCo (X 3) (X 5) (A 9 c.toNat) (X 0 0).toNat; rw [eX0, hcg]; omega)
                have hcX : wCo ((x3, X).2 3) ((x3, X).2 5) (A 9 c.toNat) ((x3, X).2 0 0).toNat = co := by show wCo (X 3) (X 5) (A 9 c.toNat) (X 0 0).toNat = co; rw [eX0]; exact hcg
                rw [hcX] at t1 t2 t3
                have t3b : (wTs (A 9 c.toNat) c (x3, X)).1 = x3 - y5 := by rw [t3, h120_0]
                have hm1 : 1 ≤ k9 := by
                  have := wNe_in (H := X 5) (c := co.toNat) hco.2.2.1 (n := (W 0 0).toNat) (by omega)
                  rcases h7_5 with q | q <;> omega
                have hTk : wTk (A 9 c.toNat) c (k9 - 1) (x3 - y5, (wTs (A 9 c.toNat) c (x3, X)).2) = wTk (A 9 c.toNat) c 60 (A 10 c.toNat, wTk0 W c 60) := by
                  rw [← h7_3, show k9 = (k9 - 1) + 1 by omega, wTk_s1 (x := (x3, X)) ⟨by show 0 < x3; omega, by rw [hcX]; exact hcn⟩, ← t3b]
                  rfl
                have hFl : ∀ a : Int, wFl (W 3) ((wTs (A 9 c.toNat) c (x3, X)).2 5) a (W 0 0).toNat = wFl (W 3) (X 5) a (W 0 0).toNat - (if a ≤ W 3 co.toNat then y5 else 0) := fun a => by
                  rw [wFl_up (F := W 3) (H := X 5) (c := co.toNat) (d := y5) (by rw [t1, if_pos rfl, h120_0]) (fun j hj => by rw [t1, if_neg hj]) (W 0 0).toNat]
                  by_cases q : a ≤ W 3 co.toNat
                  · rw [if_pos q, if_pos ⟨by omega, q⟩]
                  · rw [if_neg q, if_neg (fun z => q z.2)]
                have hco3 : A 9 c.toNat ≤ W 3 co.toNat := by rw [← eX3]; exact hco.2.2.2
                have hNe : x3 - y5 = 0 ∨ wNe ((wTs (A 9 c.toNat) c (x3, X)).2 5) (W 0 0).toNat ≤ ((k9 - 1 : Nat) : Int) := by
                  by_cases q : x3 - y5 = 0
                  · exact Or.inl q
                  · have q2 := wNe_up (H := X 5) (K := (wTs (A 9 c.toNat) c (x3, X)).2 5) (c := co.toNat) hco.2.2.1 (by rw [t1, if_pos rfl]; show X 5 co.toNat - min x3 (X 5 co.toNat) = 0; omega) (fun j hj => by rw [t1, if_neg hj]) (W 0 0).toNat
                    rw [if_pos (by omega)] at q2
                    rcases h7_5 with z | z
                    · omega
                    · exact Or.inr (by omega)
                first | refine zs_isub (pc := 132) C dX9_bakes_132 (by omega) ?_ | refine zs_isubF (pc := 132) C dX9_bakes_132 (fun z132 hz1321 hz1322 => ?_)
                refine zs_iast (r := 2094) (pc := 133) C dX9_bakes_133 a_94 (by decide) (by omega) rfl (r_2094 _) (by omega) ?_
                refine zs_iload_n (pc := 134) C dX9_bakes_134 rfl ?_
                refine zs_iload (pc := 135) C dX9_bakes_135 rfl ?_
                first | refine zs_isub (pc := 137) C dX9_bakes_137 (by omega) ?_ | refine zs_isubF (pc := 137) C dX9_bakes_137 (fun z137 hz1371 hz1372 => ?_)
                refine zs_istore_n (pc := 138) C dX9_bakes_138 (by decide) ?_
                dsimp only [zset, zclr, znone]
                refine zs_aload_n (pc := 139) C dX9_bakes_139 rfl ?_
                refine zs_dupa (pc := 140) C dX9_bakes_140 ?_
                refine zs_geti (r := 1073) (pc := 141) C dX9_bakes_141 w_X9_388 f_10_73 rfl (r_1073 0) (fun v141 e141 l141 u141 => ?_)
                try simp only [zuI_1, zuI_2, zuJ_1, zuJ_2, zuJ_3, zuP_1, zuP_2, zuP_3, zuC_1, zuC_2, reduceIte, Nat.reduceEqDiff, false_and, and_false, true_and, and_true, and_self, or_true, true_or, or_false, false_or] at e141
                skip
                refine zs_iload_n (pc := 144) C dX9_bakes_144 rfl ?_
                refine zs_iconst (pc := 145) C dX9_bakes_145 (by decide) ?_
                have J169 : ∀ (y6 : Int), (y6 = 0) → Z p l e (zrm 0) s m args below meth cx9 Γ 7 0 0 (MQ below (zQc Γ (zpv (fun G' => zsm [2094, 2086, 1073] G G' ∧ (rW Γ w 0 (wBake A W c) G' ∧ G'.1 1073 w 0 = G.1 1073 w 0 + 0 ∧ G'.2.1 = G.2.1)))) args s 0 0 (zA Γ)) 169 [some (zr 10 w), some (zi 0), some (zi c), some (zi (x3 - y5)), some (zi x4), some (zi y5), none] [zi y6, zi v141, zr 10 w] (zuI G1 2094 (Γ.2.1 w 65) x4.toNat (v129 - y5)) := by
                  intro y6 h169_0
                  first | refine zs_iadd (pc := 169) C dX9_bakes_169 (by omega) ?_ | refine zs_iaddF (pc := 169) C dX9_bakes_169 (fun z169 hz1691 hz1692 => ?_)
                  refine zs_puti (r := 1073) (pc := 170) C dX9_bakes_170 w_X9_388 f_10_73 rfl (r_1073 0) (by omega) ?_
                  refine zs_goto (tgt := 7) (pc := 173) C dX9_bakes_173 (by decide) ?_
                  exact zs_wk (ih7 _ _ _ _ (by omega) (by repeat (first | exact zsm_rf | assumption | refine zsm_I (by decide) ?_)) (fun k hk => by rw [t4 3 k (by decide) (by decide)]; have q9 := h7_2 k hk; refine ⟨by simp only [zuI_1, zuI_2, zuJ_1, zuJ_2, zuJ_3, zuP_1, zuP_2, zuP_3, zuC_1, zuC_2, reduceIte, Nat.reduceEqDiff, false_and, and_false, true_and, and_true, and_self, or_true, true_or, or_false, false_or]; exact q9.1, ?_⟩; rw [t1]; by_cases q : k = co.toNat; (rw [if_pos q]; simp only [zuI_1, zuI_2, zuJ_1, zuJ_2, zuJ_3, zuP_1, zuP_2, zuP_3, zuC_1, zuC_2, reduceIte, Nat.reduceEqDiff, false_and, and_false, true_and, and_true, and_self, or_true, true_or, or_false, false_or]; rw [if_pos (by omega)]; subst q; omega); (rw [if_neg q]; simp only [zuI_1, zuI_2, zuJ_1, zuJ_2, zuJ_3, zuP_1, zuP_2, zuP_3, zuC_1, zuC_2, reduceIte, Nat.reduceEqDiff, false_and, and_false, true_and, and_true, and_self, or_true, true_or, or_false, false_or]; rw [if_neg (by omega)]; exact q9.2)) hTk (fun f j h5 h17 => (t4 f j h5 h17).trans (h7_4 f j h5 h17)) hNe (by rw [hFl, if_pos hco3]; omega) (fun k hk => by rw [t1]; dsimp only; have q9 := h7_7 k hk; split <;> omega) (by simp only [zuI_1, zuI_2, zuJ_1, zuJ_2, zuJ_3, zuP_1, zuP_2, zuP_3, zuC_1, zuC_2, reduceIte, Nat.reduceEqDiff, false_and, and_false, true_and, and_true, and_self, or_true, true_or, or_false, false_or]; rw [h169_0]; omega) (by rw [zuI_ne (by decide), zuI_ne (by decide)]; exact h7_9) h7_10 (by first | omega | (simp only [zuI_1, zuI_2, zuJ_1, zuJ_2, zuJ_3, zuP_1, zuP_2, zuP_3, zuC_1, zuC_2, reduceIte, Nat.reduceEqDiff, false_and, and_false, true_and, and_true, and_self, or_true, true_or, or_false, false_or]; omega))) (zwk_s rfl (zwk_s rfl (zwk_s rfl (zwk_s rfl (zwk_n (zwk_n (zwk_n zwk_0)))))))
                refine zs_icmp_ne (tgt := 168) (pc := 146) C dX9_bakes_146 (by decide) (fun h146 => ?_) (fun h146 => ?_)
                · skip
                  refine zs_iconst (pc := 168) C dX9_bakes_168 (by decide) ?_
                  exact zs_wk (J169 _ (by omega)) (zwk_s rfl (zwk_s rfl (zwk_s rfl (zwk_s rfl (zwk_s rfl (zwk_s rfl (zwk_n zwk_0)))))))
                · skip
                  exfalso; omega
              refine zs_icmp_ge (tgt := 119) (pc := 106) C dX9_bakes_106 (by decide) (fun h106 => ?_) (fun h106 => ?_)
              · skip
                refine zs_iload_n (pc := 119) C dX9_bakes_119 rfl ?_
                exact zs_wk (J120 _ (by omega)) (zwk_s rfl (zwk_s rfl (zwk_s rfl (zwk_s rfl (zwk_s rfl (zwk_n (zwk_n zwk_0)))))))
              · skip
                refine zs_aload_n (pc := 109) C dX9_bakes_109 rfl ?_
                refine zs_getf (pc := 110) C dX9_bakes_110 w_X9_127 f_10_65 (by decide) ?_
                refine zs_iload (pc := 113) C dX9_bakes_113 rfl ?_
                refine zs_iald (r := 2094) (pc := 115) C dX9_bakes_115 a_94 (by decide) (by omega) rfl (r_2094 _) (fun v115 e115 l115 u115 => ?_)
                have y115 : v115 = X 5 co.toNat := e115.trans hr9.2
                refine zs_goto (tgt := 120) (pc := 116) C dX9_bakes_116 (by decide) ?_
                exact zs_wk (J120 _ (by omega)) (zwk_s rfl (zwk_s rfl (zwk_s rfl (zwk_s rfl (zwk_s rfl (zwk_n (zwk_n zwk_0)))))))
            · skip
              have hs := wCo_s (W := X) (a := A 9 c.toNat) (k := x5) (by omega)
              have hr5 := h7_2 x5.toNat (by omega)
              rw [show (60 * 0 + (x5.toNat : Int)).toNat = (60 * 0 + x5).toNat by omega] at hr5
              have hk5 := h7_7 x5.toNat (by omega)
              refine zs_bipush (pc := 28) C dX9_bakes_28 (by decide) (by decide) ?_
              refine zs_iload_n (pc := 30) C dX9_bakes_30 rfl ?_
              first | refine zs_imul (pc := 31) C dX9_bakes_31 (by omega) ?_ | refine zs_imulF (pc := 31) C dX9_bakes_31 (fun z31 hz311 hz312 => ?_)
              refine zs_iload (pc := 32) C dX9_bakes_32 rfl ?_
              first | refine zs_iadd (pc := 34) C dX9_bakes_34 (by omega) ?_ | refine zs_iaddF (pc := 34) C dX9_bakes_34 (fun z34 hz341 hz342 => ?_)
              refine zs_istore (pc := 35) C dX9_bakes_35 (by decide) ?_
              dsimp only [zset, zclr, znone]
              refine zs_aload_n (pc := 37) C dX9_bakes_37 rfl ?_
              refine zs_getf (pc := 38) C dX9_bakes_38 w_X9_127 f_10_65 (by decide) ?_
              refine zs_iload (pc := 41) C dX9_bakes_41 rfl ?_
              refine zs_iald (r := 2094) (pc := 43) C dX9_bakes_43 a_94 (by decide) (by omega) rfl (r_2094 _) (fun v43 e43 l43 u43 => ?_)
              have J92 : ∀ (y4 : Int), ((y4 = -1 ∧ wCo (X 3) (X 5) (A 9 c.toNat) (x5 + 1).toNat = -1) ∨ (wCo (X 3) (X 5) (A 9 c.toNat) (x5 + 1).toNat ≠ -1 ∧ y4 = 60 * 0 + wCo (X 3) (X 5) (A 9 c.toNat) (x5 + 1).toNat ∧ 60 * 0 ≤ y4 ∧ y4 < 60 * 0 + (x5 + 1))) → Z p l e (zrm 0) s m args below meth cx9 Γ 7 0 0 (MQ below (zQc Γ (zpv (fun G' => zsm [2094, 2086, 1073] G G' ∧ (rW Γ w 0 (wBake A W c) G' ∧ G'.1 1073 w 0 = G.1 1073 w 0 + 0 ∧ G'.2.1 = G.2.1)))) args s 0 0 (zA Γ)) 92 [some (zr 10 w), some (zi 0), some (zi c), some (zi x3), some (zi y4), some (zi x5), none] [] G1 := by
                intro y4 h92_0
                first | refine zs_iinc (pc := 92) C dX9_bakes_92 rfl (by decide) (by omega) ?_ | refine zs_iincF (pc := 92) C dX9_bakes_92 rfl (by decide) (fun z92 hz921 hz922 => ?_)
                dsimp only [zset, zclr, znone]
                refine zs_goto (tgt := 17) (pc := 95) C dX9_bakes_95 (by decide) ?_
                exact zs_wk (ih17 _ _ (by omega) h92_0 (by first | omega | (simp only [zuI_1, zuI_2, zuJ_1, zuJ_2, zuJ_3, zuP_1, zuP_2, zuP_3, zuC_1, zuC_2, reduceIte, Nat.reduceEqDiff, false_and, and_false, true_and, and_true, and_self, or_true, true_or, or_false, false_or]; omega))) (zwk_s rfl (zwk_s rfl (zwk_s rfl (zwk_s rfl (zwk_s rfl (zwk_s rfl (zwk_n zwk_0)))))))
              have y43 : v43 = X 5 x5.toNat := e43.trans hr5.2
              refine zs_if_eq (tgt := 92) (pc := 44) C dX9_bakes_44 (by decide) (fun h44 => ?_) (fun h44 => ?_)
              · skip
                exact zs_wk (J92 _ (by first | (rw [hs, if_neg (by rintro ⟨q1, q2, q3⟩; first | omega | (rcases q3 with q3 | q3 <;> omega))]; rcases h17_1 with ⟨q1, q2⟩ | ⟨q1, q2, q3, q4⟩; exact Or.inl ⟨q1, q2⟩; exact Or.inr ⟨q1, q2, q3, by omega⟩) | (rw [hs, if_pos (by first | exact ⟨by omega, by omega, Or.inl (by omega)⟩ | exact ⟨by omega, by omega, Or.inr (by omega)⟩)]; exact Or.inr ⟨by omega, by omega, by omega, by omega⟩))) (zwk_s rfl (zwk_s rfl (zwk_s rfl (zwk_s rfl (zwk_s rfl (zwk_s rfl (zwk_n zwk_0)))))))
              · skip
                refine zs_aload_n (pc := 47) C dX9_bakes_47 rfl ?_
                refine zs_getf (pc := 48) C dX9_bakes_48 w_X9_124 f_10_64 (by decide) ?_
                refine zs_iload (pc := 51) C dX9_bakes_51 rfl ?_
                refine zs_iald (r := 2093) (pc := 53) C dX9_bakes_53 a_93 (by decide) (by omega) rfl (r_2093 _) (fun v53 e53 l53 u53 => ?_)
                refine zs_aload_n (pc := 54) C dX9_bakes_54 rfl ?_
                refine zs_getf (pc := 55) C dX9_bakes_55 w_X9_45 f_10_30 (by decide) ?_
                refine zs_iload_n (pc := 58) C dX9_bakes_58 rfl ?_
                refine zs_iald (r := 2067) (pc := 59) C dX9_bakes_59 a_67 (by decide) (by omega) rfl (r_2067 _) (fun v59 e59 l59 u59 => ?_)
                have y53 : v53 = X 3 x5.toNat := e53.trans hr5.1
                have y59 : v59 = A 9 c.toNat := e59.trans q67
                refine zs_icmp_ge (tgt := 66) (pc := 60) C dX9_bakes_60 (by decide) (fun h60 => ?_) (fun h60 => ?_)
                · skip
                  refine zs_iload (pc := 66) C dX9_bakes_66 rfl ?_
                  refine zs_if_lt (tgt := 88) (pc := 68) C dX9_bakes_68 (by decide) (fun h68 => ?_) (fun h68 => ?_)
                  · skip
                    refine zs_iload (pc := 88) C dX9_bakes_88 rfl ?_
                    refine zs_istore (pc := 90) C dX9_bakes_90 (by decide) ?_
                    dsimp only [zset, zclr, znone]
                    exact zs_wk (J92 _ (by first | (rw [hs, if_neg (by rintro ⟨q1, q2, q3⟩; first | omega | (rcases q3 with q3 | q3 <;> omega))]; rcases h17_1 with ⟨q1, q2⟩ | ⟨q1, q2, q3, q4⟩; exact Or.inl ⟨q1, q2⟩; exact Or.inr ⟨q1, q2, q3, by omega⟩) | (rw [hs, if_pos (by first | exact ⟨by omega, by omega, Or.inl (by omega)⟩ | exact ⟨by omega, by omega, Or.inr (by omega)⟩)]; exact Or.inr ⟨by omega, by omega, by omega, by omega⟩))) (zwk_s rfl (zwk_s rfl (zwk_s rfl (zwk_s rfl (zwk_s rfl (zwk_s rfl (zwk_n zwk_0)))))))
                  · skip
                    refine zs_aload_n (pc := 71) C dX9_bakes_71 rfl ?_
                    refine zs_getf (pc := 72) C dX9_bakes_72 w_X9_124 f_10_64 (by decide) ?_
                    refine zs_iload (pc := 75) C dX9_bakes_75 rfl ?_
                    refine zs_iald (r := 2093) (pc := 77) C dX9_bakes_77 a_93 (by decide) (by omega) rfl (r_2093 _) (fun v77 e77 l77 u77 => ?_)
                    refine zs_aload_n (pc := 78) C dX9_bakes_78 rfl ?_
                    refine zs_getf (pc := 79) C dX9_bakes_79 w_X9_124 f_10_64 (by decide) ?_
                    refine zs_iload (pc := 82) C dX9_bakes_82 rfl ?_
                    refine zs_iald (r := 2093) (pc := 84) C dX9_bakes_84 a_93 (by decide) (by omega) rfl (r_2093 _) (fun v84 e84 l84 u84 => ?_)
                    have y77 : v77 = X 3 x5.toNat := e77.trans hr5.1
                    have hq84 : v84 = X 3 (wCo (X 3) (X 5) (A 9 c.toNat) x5.toNat).toNat := by
                      rcases h17_1 with q | q
                      · omega
                      · have hi := (wCo_in (F := X 3) (H := X 5) (a := A 9 c.toNat) x5.toNat).resolve_left q.1
                        have hr8 := h7_2 (wCo (X 3) (X 5) (A 9 c.toNat) x5.toNat).toNat (by omega)
                        rw [show (60 * 0 + ((wCo (X 3) (X 5) (A 9 c.toNat) x5.toNat).toNat : Int)).toNat = x4.toNat by omega] at hr8
                        exact e84.trans hr8.1
                    refine zs_icmp_ge (tgt := 92) (pc := 85) C dX9_bakes_85 (by decide) (fun h85 => ?_) (fun h85 => ?_)
                    · skip
                      exact zs_wk (J92 _ (by first | (rw [hs, if_neg (by rintro ⟨q1, q2, q3⟩; first | omega | (rcases q3 with q3 | q3 <;> omega))]; rcases h17_1 with ⟨q1, q2⟩ | ⟨q1, q2, q3, q4⟩; exact Or.inl ⟨q1, q2⟩; exact Or.inr ⟨q1, q2, q3, by omega⟩) | (rw [hs, if_pos (by first | exact ⟨by omega, by omega, Or.inl (by omega)⟩ | exact ⟨by omega, by omega, Or.inr (by omega)⟩)]; exact Or.inr ⟨by omega, by omega, by omega, by omega⟩))) (zwk_s rfl (zwk_s rfl (zwk_s rfl (zwk_s rfl (zwk_s rfl (zwk_s rfl (zwk_n zwk_0)))))))
                    · skip
                      refine zs_iload (pc := 88) C dX9_bakes_88 rfl ?_
                      refine zs_istore (pc := 90) C dX9_bakes_90 (by decide) ?_
                      dsimp only [zset, zclr, znone]
                      exact zs_wk (J92 _ (by first | (rw [hs, if_neg (by rintro ⟨q1, q2, q3⟩; first | omega | (rcases q3 with q3 | q3 <;> omega))]; rcases h17_1 with ⟨q1, q2⟩ | ⟨q1, q2, q3, q4⟩; exact Or.inl ⟨q1, q2⟩; exact Or.inr ⟨q1, q2, q3, by omega⟩) | (rw [hs, if_pos (by first | exact ⟨by omega, by omega, Or.inl (by omega)⟩ | exact ⟨by omega, by omega, Or.inr (by omega)⟩)]; exact Or.inr ⟨by omega, by omega, by omega, by omega⟩))) (zwk_s rfl (zwk_s rfl (zwk_s rfl (zwk_s rfl (zwk_s rfl (zwk_s rfl (zwk_n zwk_0)))))))
                · skip
                  refine zs_goto (tgt := 92) (pc := 63) C dX9_bakes_63 (by decide) ?_
                  exact zs_wk (J92 _ (by first | (rw [hs, if_neg (by rintro ⟨q1, q2, q3⟩; first | omega | (rcases q3 with q3 | q3 <;> omega))]; rcases h17_1 with ⟨q1, q2⟩ | ⟨q1, q2, q3, q4⟩; exact Or.inl ⟨q1, q2⟩; exact Or.inr ⟨q1, q2, q3, by omega⟩) | (rw [hs, if_pos (by first | exact ⟨by omega, by omega, Or.inl (by omega)⟩ | exact ⟨by omega, by omega, Or.inr (by omega)⟩)]; exact Or.inr ⟨by omega, by omega, by omega, by omega⟩))) (zwk_s rfl (zwk_s rfl (zwk_s rfl (zwk_s rfl (zwk_s rfl (zwk_s rfl (zwk_n zwk_0)))))))
        exact zs_wk (L17 _ _ _ (by omega) (Or.inl ⟨rfl, rfl⟩) (Nat.lt_succ_self _)) (zwk_s rfl (zwk_s rfl (zwk_s rfl (zwk_s rfl (zwk_s rfl (zwk_s rfl (zwk_n zwk_0)))))))
  exact zs_wk (L7 _ _ _ _ _ (by omega) zsm_rf (fun k hk => by rw [wTk0_f (by decide), wTk0_f (by decide)]; exact rC k hk) rfl (fun f j h5 h17 => wTk0_f h17 60) (Or.inr (by have q := wNe_le ((wTk0 W c 60) 5) (W 0 0).toNat; omega)) (by rw [show (wTk0 W c 60) 5 = W 5 from funext (fun j => wTk0_f (by decide) 60)]; exact hcb.2) (fun k hk => by rw [wTk0_f (by decide)]; have q := hW.2.1 k hk; omega) (by omega) rfl rfl (Nat.lt_succ_self _)) (zwk_s rfl (zwk_s rfl (zwk_s rfl (zwk_s rfl (zwk_n (zwk_n (zwk_n zwk_0)))))))

set_option maxHeartbeats 4000000 in
set_option maxRecDepth 100000 in
theorem c_X9_bakesW1 {l : Launch} {Γ : zΓ} {G : zH} {w : Nat} {c : Int} {A W : aS}  (hX : zXs Γ) (hc : 0 ≤ c ∧ c < A 4 2) (hR : rW Γ w 1 W G) (hK : kR Γ w A G) (hW : WI A W) (hT : TA A) (hcb : wCanB A W c) (h73 : -1000000 ≤ G.1 1073 w 0 ∧ G.1 1073 w 0 ≤ 1000000)  : zMet l Γ yX9_bakes cX9_bakes 7 none 0 [zr 10 w, zi 1, zi c] G (zpv (fun G' => zsm [2094, 2086, 1073] G G' ∧ (rW Γ w 1 (wBake A W c) G' ∧ G'.1 1073 w 0 = G.1 1073 w 0 + (wFlour W (G.1 1072 w 0) - wFlour (wBake A W c) (G.1 1072 w 0)) ∧ LO G G' ∧ G'.2.1 = G.2.1))) := by
  refine zMet_of RX9 hX (by decide) rfl (Nat.le_of_ble_eq_true rfl) ?_
  intro p e s m args below meth cx9 C hr hlk
  show Z p l e (zrm 0) s m args below meth cx9 Γ 7 0 0 (MQ below (zQc Γ (zpv (fun G' => zsm [2094, 2086, 1073] G G' ∧ (rW Γ w 1 (wBake A W c) G' ∧ G'.1 1073 w 0 = G.1 1073 w 0 + (wFlour W (G.1 1072 w 0) - wFlour (wBake A W c) (G.1 1072 w 0)) ∧ LO G G' ∧ G'.2.1 = G.2.1)))) args s 0 0 (zA Γ)) 0 [some (zr 10 w), some (zi 1), some (zi c), none, none, none, none] [] G
  refine zs_loc 2 rfl (fun ha2 hb2 => ?_)
  have hT0 := hT.1
  have h00 := hW.1
  have h18 := hW.2.2.2.2.2.1
  obtain ⟨rA, rB, ⟨r1, r2, r3, r4⟩, rC⟩ := id hR
  have kC := hK.2.2.2.2.2.2.1 c.toNat (by omega)
  have hck := hT.2.2.2.2.1 c.toNat (by omega)
  have hV : wBake A W c = up (wTk (A 9 c.toNat) c 60 (A 10 c.toNat, wTk0 W c 60)).2 16 c.toNat (W 18 0) := by unfold wBake; rw [if_pos hcb]
  refine zs_aload_n (pc := 0) C dX9_bakes_0 rfl ?_
  refine zs_getf (pc := 1) C dX9_bakes_1 w_X9_48 f_10_31 (by decide) ?_
  refine zs_iload_n (pc := 4) C dX9_bakes_4 rfl ?_
  refine zs_iald (r := 2068) (pc := 5) C dX9_bakes_5 a_68 (by decide) (by omega) rfl (r_2068 _) (fun v5 e5 l5 u5 => ?_)
  have y5a : v5 = A 10 c.toNat := e5.trans kC.2.2.1
  subst y5a
  refine zs_istore_n (pc := 6) C dX9_bakes_6 (by decide) ?_
  dsimp only [zset, zclr, znone]
  have L7 : ∀ (nn : Nat) (x3 : Int) (G1 : zH) (X : aS) (k9 : Nat), (0 ≤ x3 ∧ x3 ≤ 99) → (zsm [2094, 2086, 1073] G G1) → (rK Γ w 1 X G1 (W 0 0)) → (wTk (A 9 c.toNat) c k9 (x3, X) = wTk (A 9 c.toNat) c 60 (A 10 c.toNat, wTk0 W c 60)) → (∀ f j : Nat, f ≠ 5 → f ≠ 17 → X f j = W f j) → (x3 = 0 ∨ wNe (X 5) (W 0 0).toNat ≤ k9) → (x3 ≤ wFl (W 3) (X 5) (A 9 c.toNat) (W 0 0).toNat) → (∀ k : Nat, (k : Int) < W 0 0 → 0 ≤ X 5 k ∧ X 5 k ≤ 99) → (G1.1 1073 w 0 = G.1 1073 w 0 + (wFl (W 3) (W 5) (G.1 1072 w 0) (W 0 0).toNat - wFl (W 3) (X 5) (G.1 1072 w 0) (W 0 0).toNat)) → (LO G G1) → (G1.1 2086 = G.1 2086) → (G1.2.1 = G.2.1) → x3.toNat < nn → Z p l e (zrm 0) s m args below meth cx9 Γ 7 0 0 (MQ below (zQc Γ (zpv (fun G' => zsm [2094, 2086, 1073] G G' ∧ (rW Γ w 1 (wBake A W c) G' ∧ G'.1 1073 w 0 = G.1 1073 w 0 + (wFlour W (G.1 1072 w 0) - wFlour (wBake A W c) (G.1 1072 w 0)) ∧ LO G G' ∧ G'.2.1 = G.2.1)))) args s 0 0 (zA Γ)) 7 [some (zr 10 w), some (zi 1), some (zi c), some (zi x3), none, none, none] [] G1 := by
    intro nn
    induction nn with
    | zero => intro x3 G1 X k9 h7_0 h7_1 h7_2 h7_3 h7_4 h7_5 h7_6 h7_7 h7_8 h7_9 h7_10 h7_11 hm; exact absurd hm (Nat.not_lt_zero _)
    | succ nn ih7 =>
      intro x3 G1 X k9 h7_0 h7_1 h7_2 h7_3 h7_4 h7_5 h7_6 h7_7 h7_8 h7_9 h7_10 h7_11 hm7
      have eX3 : X 3 = W 3 := funext (fun j => h7_4 3 j (by decide) (by decide))
      have eX0 : X 0 0 = W 0 0 := h7_4 0 0 (by decide) (by decide)
      have r17 : G1.1 2087 (Γ.2.1 w 57) (1 : Int).toNat = W 0 0 := by rw [h7_1.1 2087 (by decide)]; exact r1
      have q67 : G1.1 2067 (Γ.2.1 w 30) c.toNat = A 9 c.toNat := by rw [h7_1.1 2067 (by decide)]; exact kC.2.1
      refine zs_iload_n (pc := 7) C dX9_bakes_7 rfl ?_
      refine zs_if_le (tgt := 176) (pc := 8) C dX9_bakes_8 (by decide) (fun h8 => ?_) (fun h8 => ?_)
      · skip
        have hx30 : x3 = 0 := by omega
        have hfin : wTk (A 9 c.toNat) c 60 (A 10 c.toNat, wTk0 W c 60) = (x3, X) := by rw [← h7_3]; exact wTk_e (fun q => by have q1 : 0 < x3 := q.1; omega) k9
        refine zs_aload_n (pc := 176) C dX9_bakes_176 rfl ?_
        refine zs_getf (pc := 177) C dX9_bakes_177 w_X9_103 f_10_56 (by decide) ?_
        refine zs_iconst (pc := 180) C dX9_bakes_180 (by decide) ?_
        refine zs_iload_n (pc := 181) C dX9_bakes_181 rfl ?_
        first | refine zs_imul (pc := 182) C dX9_bakes_182 (by omega) ?_ | refine zs_imulF (pc := 182) C dX9_bakes_182 (fun z182 hz1821 hz1822 => ?_)
        refine zs_iload_n (pc := 183) C dX9_bakes_183 rfl ?_
        first | refine zs_iadd (pc := 184) C dX9_bakes_184 (by omega) ?_ | refine zs_iaddF (pc := 184) C dX9_bakes_184 (fun z184 hz1841 hz1842 => ?_)
        refine zs_aload_n (pc := 185) C dX9_bakes_185 rfl ?_
        refine zs_getf (pc := 186) C dX9_bakes_186 w_X9_115 f_10_60 (by decide) ?_
        refine zs_iload_n (pc := 189) C dX9_bakes_189 rfl ?_
        refine zs_iald (r := 2090) (pc := 190) C dX9_bakes_190 a_90 (by decide) (by omega) rfl (r_2090 _) (fun v190 e190 l190 u190 => ?_)
        have y190 : v190 = W 18 0 := by rw [e190, h7_1.1 2090 (by decide)]; exact r4
        refine zs_iast (r := 2086) (pc := 191) C dX9_bakes_191 a_86 (by decide) (by omega) rfl (r_2086 _) (by omega) ?_
        exact zs_vret (pc := 192) C hr hlk dX9_bakes_192 ⟨(by repeat (first | exact zsm_rf | assumption | refine zsm_I (by decide) ?_)), ⟨⟨(fun j hj => by rw [show (wBake A W c) 11 j = W 11 j from (by rw [hV, hfin]; show (up X 16 c.toNat (W 18 0)) 11 j = _; rw [up_f (by decide)]; exact h7_4 11 j (by decide) (by decide)), show (wBake A W c) 12 j = W 12 j from (by rw [hV, hfin]; show (up X 16 c.toNat (W 18 0)) 12 j = _; rw [up_f (by decide)]; exact h7_4 12 j (by decide) (by decide))]; simp only [zuI_1, zuI_2, zuJ_1, zuJ_2, zuJ_3, zuP_1, zuP_2, zuP_3, zuC_1, zuC_2, reduceIte, Nat.reduceEqDiff, false_and, and_false, true_and, and_true, and_self, or_true, true_or, or_false, false_or, h7_1.1 2081 (by decide), h7_1.1 2082 (by decide)]; exact rA j hj), (fun j hj => by have q9 := rB j hj; rw [hV, hfin]; show _ = (up X 16 c.toNat (W 18 0)) 13 j ∧ _ = (up X 16 c.toNat (W 18 0)) 14 j ∧ _ = (up X 16 c.toNat (W 18 0)) 15 j ∧ _ = (if (up X 16 c.toNat (W 18 0)) 16 j = -1 then -2 else (up X 16 c.toNat (W 18 0)) 16 j); rw [up_f (by decide), up_f (by decide), up_f (by decide), up_at, h7_4 13 j (by decide) (by decide), h7_4 14 j (by decide) (by decide), h7_4 15 j (by decide) (by decide), h7_4 16 j (by decide) (by decide)]; refine ⟨by simp only [zuI_1, zuI_2, zuJ_1, zuJ_2, zuJ_3, zuP_1, zuP_2, zuP_3, zuC_1, zuC_2, reduceIte, Nat.reduceEqDiff, false_and, and_false, true_and, and_true, and_self, or_true, true_or, or_false, false_or, h7_1.1 2083 (by decide)]; exact q9.1, by simp only [zuI_1, zuI_2, zuJ_1, zuJ_2, zuJ_3, zuP_1, zuP_2, zuP_3, zuC_1, zuC_2, reduceIte, Nat.reduceEqDiff, false_and, and_false, true_and, and_true, and_self, or_true, true_or, or_false, false_or, h7_1.1 2084 (by decide)]; exact q9.2.1, by simp only [zuI_1, zuI_2, zuJ_1, zuJ_2, zuJ_3, zuP_1, zuP_2, zuP_3, zuC_1, zuC_2, reduceIte, Nat.reduceEqDiff, false_and, and_false, true_and, and_true, and_self, or_true, true_or, or_false, false_or, h7_1.1 2085 (by decide)]; exact q9.2.2.1, ?_⟩; by_cases q : j = c.toNat; (rw [if_pos q, if_neg (by omega)]; simp only [zuI_1, zuI_2, zuJ_1, zuJ_2, zuJ_3, zuP_1, zuP_2, zuP_3, zuC_1, zuC_2, reduceIte, Nat.reduceEqDiff, false_and, and_false, true_and, and_true, and_self, or_true, true_or, or_false, false_or]; rw [if_pos (by omega)]; omega); (rw [if_neg q]; simp only [zuI_1, zuI_2, zuJ_1, zuJ_2, zuJ_3, zuP_1, zuP_2, zuP_3, zuC_1, zuC_2, reduceIte, Nat.reduceEqDiff, false_and, and_false, true_and, and_true, and_self, or_true, true_or, or_false, false_or]; rw [if_neg (by omega), h7_10]; exact q9.2.2.2)), (by rw [show (wBake A W c) 0 0 = W 0 0 from (by rw [hV, hfin]; show (up X 16 c.toNat (W 18 0)) 0 0 = _; rw [up_f (by decide)]; exact h7_4 0 0 (by decide) (by decide)), show (wBake A W c) 19 0 = W 19 0 from (by rw [hV, hfin]; show (up X 16 c.toNat (W 18 0)) 19 0 = _; rw [up_f (by decide)]; exact h7_4 19 0 (by decide) (by decide)), show (wBake A W c) 20 0 = W 20 0 from (by rw [hV, hfin]; show (up X 16 c.toNat (W 18 0)) 20 0 = _; rw [up_f (by decide)]; exact h7_4 20 0 (by decide) (by decide)), show (wBake A W c) 18 0 = W 18 0 from (by rw [hV, hfin]; show (up X 16 c.toNat (W 18 0)) 18 0 = _; rw [up_f (by decide)]; exact h7_4 18 0 (by decide) (by decide))]; simp only [zuI_1, zuI_2, zuJ_1, zuJ_2, zuJ_3, zuP_1, zuP_2, zuP_3, zuC_1, zuC_2, reduceIte, Nat.reduceEqDiff, false_and, and_false, true_and, and_true, and_self, or_true, true_or, or_false, false_or, h7_1.1 2087 (by decide), h7_1.1 2088 (by decide), h7_1.1 2089 (by decide), h7_1.1 2090 (by decide)]; exact ⟨r1, r2, r3, r4⟩), (by rw [show (wBake A W c) 0 0 = W 0 0 from (by rw [hV, hfin]; show (up X 16 c.toNat (W 18 0)) 0 0 = _; rw [up_f (by decide)]; exact h7_4 0 0 (by decide) (by decide))]; exact fun k hk => (by rw [show (wBake A W c) 3 k = X 3 k from (by rw [hV, hfin]; exact up_f (by decide)), show (wBake A W c) 5 k = X 5 k from (by rw [hV, hfin]; exact up_f (by decide))]; simp only [zuI_1, zuI_2, zuJ_1, zuJ_2, zuJ_3, zuP_1, zuP_2, zuP_3, zuC_1, zuC_2, reduceIte, Nat.reduceEqDiff, false_and, and_false, true_and, and_true, and_self, or_true, true_or, or_false, false_or]; exact h7_2 k hk))⟩, (by simp only [zuI_1, zuI_2, zuJ_1, zuJ_2, zuJ_3, zuP_1, zuP_2, zuP_3, zuC_1, zuC_2, reduceIte, Nat.reduceEqDiff, false_and, and_false, true_and, and_true, and_self, or_true, true_or, or_false, false_or]; rw [h7_8]; unfold wFlour; rw [show (wBake A W c) 0 0 = W 0 0 from (by rw [hV, hfin]; show (up X 16 c.toNat (W 18 0)) 0 0 = _; rw [up_f (by decide)]; exact h7_4 0 0 (by decide) (by decide)), show (wBake A W c) 3 = W 3 from funext (fun j => (by rw [hV, hfin]; show (up X 16 c.toNat (W 18 0)) 3 j = _; rw [up_f (by decide)]; exact h7_4 3 j (by decide) (by decide))), show (wBake A W c) 5 = X 5 from funext (fun j => by rw [hV, hfin]; exact up_f (by decide))]), LO_I (by show 5 ≤ _; omega) h7_9, h7_11⟩⟩
      · skip
        refine zs_iconst (pc := 11) C dX9_bakes_11 (by decide) ?_
        refine zs_istore (pc := 12) C dX9_bakes_12 (by decide) ?_
        dsimp only [zset, zclr, znone]
        refine zs_iconst (pc := 14) C dX9_bakes_14 (by decide) ?_
        refine zs_istore (pc := 15) C dX9_bakes_15 (by decide) ?_
        dsimp only [zset, zclr, znone]
        have L17 : ∀ (nn : Nat) (x4 x5 : Int), (0 ≤ x5 ∧ x5 ≤ W 0 0) → ((x4 = -1 ∧ wCo (X 3) (X 5) (A 9 c.toNat) x5.toNat = -1) ∨ (wCo (X 3) (X 5) (A 9 c.toNat) x5.toNat ≠ -1 ∧ x4 = 60 * 1 + wCo (X 3) (X 5) (A 9 c.toNat) x5.toNat ∧ 60 * 1 ≤ x4 ∧ x4 < 60 * 1 + x5)) → (60 - x5).toNat < nn → Z p l e (zrm 0) s m args below meth cx9 Γ 7 0 0 (MQ below (zQc Γ (zpv (fun G' => zsm [2094, 2086, 1073] G G' ∧ (rW Γ w 1 (wBake A W c) G' ∧ G'.1 1073 w 0 = G.1 1073 w 0 + (wFlour W (G.1 1072 w 0) - wFlour (wBake A W c) (G.1 1072 w 0)) ∧ LO G G' ∧ G'.2.1 = G.2.1)))) args s 0 0 (zA Γ)) 17 [some (zr 10 w), some (zi 1), some (zi c), some (zi x3), some (zi x4), some (zi x5), none] [] G1 := by
          intro nn
          induction nn with
          | zero => intro x4 x5 h17_0 h17_1 hm; exact absurd hm (Nat.not_lt_zero _)
          | succ nn ih17 =>
            intro x4 x5 h17_0 h17_1 hm17
            refine zs_iload (pc := 17) C dX9_bakes_17 rfl ?_
            refine zs_aload_n (pc := 19) C dX9_bakes_19 rfl ?_
            refine zs_getf (pc := 20) C dX9_bakes_20 w_X9_106 f_10_57 (by decide) ?_
            refine zs_iload_n (pc := 23) C dX9_bakes_23 rfl ?_
            refine zs_iald (r := 2087) (pc := 24) C dX9_bakes_24 a_87 (by decide) (by omega) rfl (r_2087 _) (fun v24 e24 l24 u24 => ?_)
            refine zs_icmp_ge (tgt := 98) (pc := 25) C dX9_bakes_25 (by decide) (fun h25 => ?_) (fun h25 => ?_)
            · skip
              refine zs_loc 3 rfl (fun hx3a hx3b => ?_)
              have hx5 : x5 = W 0 0 := by omega
              rw [hx5] at h17_1
              have hnn : wCo (X 3) (X 5) (A 9 c.toNat) (W 0 0).toNat ≠ -1 := fun q => by
                have q2 := wFl_no (F := X 3) (H := X 5) (a := A 9 c.toNat) (W 0 0).toNat q (fun k hk => (h7_7 k (by omega)).1)
                rw [eX3] at q2
                omega
              have h9 := h17_1.resolve_left (fun q => hnn q.2)
              have hco := (wCo_in (F := X 3) (H := X 5) (a := A 9 c.toNat) (W 0 0).toNat).resolve_left hnn
              generalize hcg : wCo (X 3) (X 5) (A 9 c.toNat) (W 0 0).toNat = co at *
              have hr9 := h7_2 co.toNat (by omega)
              rw [show (60 * 1 + (co.toNat : Int)).toNat = x4.toNat by omega] at hr9
              have hk9 := h7_7 co.toNat (by omega)
              refine zs_aload_n (pc := 98) C dX9_bakes_98 rfl ?_
              refine zs_getf (pc := 99) C dX9_bakes_99 w_X9_127 f_10_65 (by decide) ?_
              refine zs_iload (pc := 102) C dX9_bakes_102 rfl ?_
              refine zs_iald (r := 2094) (pc := 104) C dX9_bakes_104 a_94 (by decide) (by omega) rfl (r_2094 _) (fun v104 e104 l104 u104 => ?_)
              have y104 : v104 = X 5 co.toNat := e104.trans hr9.2
              refine zs_iload_n (pc := 105) C dX9_bakes_105 rfl ?_
              have J120 : ∀ (y5 : Int), (y5 = min x3 (X 5 co.toNat)) → Z p l e (zrm 0) s m args below meth cx9 Γ 7 0 0 (MQ below (zQc Γ (zpv (fun G' => zsm [2094, 2086, 1073] G G' ∧ (rW Γ w 1 (wBake A W c) G' ∧ G'.1 1073 w 0 = G.1 1073 w 0 + (wFlour W (G.1 1072 w 0) - wFlour (wBake A W c) (G.1 1072 w 0)) ∧ LO G G' ∧ G'.2.1 = G.2.1)))) args s 0 0 (zA Γ)) 120 [some (zr 10 w), some (zi 1), some (zi c), some (zi x3), some (zi x4), none, none] [zi y5] G1 := by
                intro y5 h120_0
                refine zs_istore (pc := 120) C dX9_bakes_120 (by decide) ?_
                dsimp only [zset, zclr, znone]
                refine zs_aload_n (pc := 122) C dX9_bakes_122 rfl ?_
                refine zs_getf (pc := 123) C dX9_bakes_123 w_X9_127 f_10_65 (by decide) ?_
                refine zs_iload (pc := 126) C dX9_bakes_126 rfl ?_
                refine zs_dup2 (pc := 128) C dX9_bakes_128 ?_
                refine zs_iald (r := 2094) (pc := 129) C dX9_bakes_129 a_94 (by decide) (by omega) rfl (r_2094 _) (fun v129 e129 l129 u129 => ?_)
                refine zs_iload (pc := 130) C dX9_bakes_130 rfl ?_
                have y129 : v129 = X 5 co.toNat := e129.trans hr9.2
                have hcn : co ≠ -1 := by omega
                obtain ⟨t1, t2, t3, t4⟩ := wTs_ev (A 9 c.toNat) c (x3, X) hc.1 (by show 0 ≤ wCo (X 3) (X 5) (A 9 c.toNat) (X 0 0).toNat; rw [eX0, hcg]; omega)
                have hcX : wCo ((x3, X).2 3) ((x3, X).2 5) (A 9 c.toNat) ((x3, X).2 0 0).toNat = co := by show wCo (X 3) (X 5) (A 9 c.toNat) (X 0 0).toNat = co; rw [eX0]; exact hcg
                rw [hcX] at t1 t2 t3
                have t3b : (wTs (A 9 c.toNat) c (x3, X)).1 = x3 - y5 := by rw [t3, h120_0]
                have hm1 : 1 ≤ k9 := by
                  have := wNe_in (H := X 5) (c := co.toNat) hco.2.2.1 (n := (W 0 0).toNat) (by omega)
                  rcases h7_5 with q | q <;> omega
                have hTk : wTk (A 9 c.toNat) c (k9 - 1) (x3 - y5, (wTs (A 9 c.toNat) c (x3, X)).2) = wTk (A 9 c.toNat) c 60 (A 10 c.toNat, wTk0 W c 60) := by
                  rw [← h7_3, show k9 = (k9 - 1) + 1 by omega, wTk_s1 (x := (x3, X)) ⟨by show 0 < x3; omega, by rw [hcX]; exact hcn⟩, ← t3b]
                  rfl
                have hFl : ∀ a : Int, wFl (W 3) ((wTs (A 9 c.toNat) c (x3, X)).2 5) a (W 0 0).toNat = wFl (W 3) (X 5) a (W 0 0).toNat - (if a ≤ W 3 co.toNat then y5 else 0) := fun a => by
                  rw [wFl_up (F := W 3) (H := X 5) (c := co.toNat) (d := y5) (by rw [t1, if_pos rfl, h120_0]) (fun j hj => by rw [t1, if_neg hj]) (W 0 0).toNat]
                  by_cases q : a ≤ W 3 co.toNat
                  · rw [if_pos q, if_pos ⟨by omega, q⟩]
                  · rw [if_neg q, if_neg (fun z => q z.2)]
                have hco3 : A 9 c.toNat ≤ W 3 co.toNat := by rw [← eX3]; exact hco.2.2.2
                have hNe : x3 - y5 = 0 ∨ wNe ((wTs (A 9 c.toNat) c (x3, X)).2 5) (W 0 0).toNat ≤ ((k9 - 1 : Nat) : Int) := by
                  by_cases q : x3 - y5 = 0
                  · exact Or.inl q
                  · have q2 := wNe_up (H := X 5) (K := (wTs (A 9 c.toNat) c (x3, X)).2 5) (c := co.toNat) hco.2.2.1 (by rw [t1, if_pos rfl]; show X 5 co.toNat - min x3 (X 5 co.toNat) = 0; omega) (fun j hj => by rw [t1, if_neg hj]) (W 0 0).toNat
                    rw [if_pos (by omega)] at q2
                    rcases h7_5 with z | z
                    · omega
                    · exact Or.inr (by omega)
                first | refine zs_isub (pc := 132) C dX9_bakes_132 (by omega) ?_ | refine zs_isubF (pc := 132) C dX9_bakes_132 (fun z132 hz1321 hz1322 => ?_)
                refine zs_iast (r := 2094) (pc := 133) C dX9_bakes_133 a_94 (by decide) (by omega) rfl (r_2094 _) (by omega) ?_
                refine zs_iload_n (pc := 134) C dX9_bakes_134 rfl ?_
                refine zs_iload (pc := 135) C dX9_bakes_135 rfl ?_
                first | refine zs_isub (pc := 137) C dX9_bakes_137 (by omega) ?_ | refine zs_isubF (pc := 137) C dX9_bakes_137 (fun z137 hz1371 hz1372 => ?_)
                refine zs_istore_n (pc := 138) C dX9_bakes_138 (by decide) ?_
                dsimp only [zset, zclr, znone]
                refine zs_aload_n (pc := 139) C dX9_bakes_139 rfl ?_
                refine zs_dupa (pc := 140) C dX9_bakes_140 ?_
                refine zs_geti (r := 1073) (pc := 141) C dX9_bakes_141 w_X9_388 f_10_73 rfl (r_1073 0) (fun v141 e141 l141 u141 => ?_)
                try simp only [zuI_1, zuI_2, zuJ_1, zuJ_2, zuJ_3, zuP_1, zuP_2, zuP_3, zuC_1, zuC_2, reduceIte, Nat.reduceEqDiff, false_and, and_false, true_and, and_true, and_self, or_true, true_or, or_false, false_or] at e141
                have y141 : v141 = G.1 1073 w 0 + (wFl (W 3) (W 5) (G.1 1072 w 0) (W 0 0).toNat - wFl (W 3) (X 5) (G.1 1072 w 0) (W 0 0).toNat) := e141.trans h7_8
                have hi1 := wFl_99 (F := W 3) (a := (G.1 1072 w 0)) (W 0 0).toNat (fun k hk => h7_7 k (by omega))
                have hi2 := wFl_99 (F := W 3) (H := W 5) (a := (G.1 1072 w 0)) (W 0 0).toNat (fun k hk => by have q := hW.2.1 k (by omega); omega)
                refine zs_iload_n (pc := 144) C dX9_bakes_144 rfl ?_
                refine zs_iconst (pc := 145) C dX9_bakes_145 (by decide) ?_
                have J169 : ∀ (y6 : Int), (y6 = (if (G.1 1072 w 0) ≤ W 3 co.toNat then y5 else 0)) → Z p l e (zrm 0) s m args below meth cx9 Γ 7 0 0 (MQ below (zQc Γ (zpv (fun G' => zsm [2094, 2086, 1073] G G' ∧ (rW Γ w 1 (wBake A W c) G' ∧ G'.1 1073 w 0 = G.1 1073 w 0 + (wFlour W (G.1 1072 w 0) - wFlour (wBake A W c) (G.1 1072 w 0)) ∧ LO G G' ∧ G'.2.1 = G.2.1)))) args s 0 0 (zA Γ)) 169 [some (zr 10 w), some (zi 1), some (zi c), some (zi (x3 - y5)), some (zi x4), some (zi y5), none] [zi y6, zi v141, zr 10 w] (zuI G1 2094 (Γ.2.1 w 65) x4.toNat (v129 - y5)) := by
                  intro y6 h169_0
                  first | refine zs_iadd (pc := 169) C dX9_bakes_169 (by omega) ?_ | refine zs_iaddF (pc := 169) C dX9_bakes_169 (fun z169 hz1691 hz1692 => ?_)
                  refine zs_puti (r := 1073) (pc := 170) C dX9_bakes_170 w_X9_388 f_10_73 rfl (r_1073 0) (by omega) ?_
                  refine zs_goto (tgt := 7) (pc := 173) C dX9_bakes_173 (by decide) ?_
                  exact zs_wk (ih7 _ _ _ _ (by omega) (by repeat (first | exact zsm_rf | assumption | refine zsm_I (by decide) ?_)) (fun k hk => by rw [t4 3 k (by decide) (by decide)]; have q9 := h7_2 k hk; refine ⟨by simp only [zuI_1, zuI_2, zuJ_1, zuJ_2, zuJ_3, zuP_1, zuP_2, zuP_3, zuC_1, zuC_2, reduceIte, Nat.reduceEqDiff, false_and, and_false, true_and, and_true, and_self, or_true, true_or, or_false, false_or]; exact q9.1, ?_⟩; rw [t1]; by_cases q : k = co.toNat; (rw [if_pos q]; simp only [zuI_1, zuI_2, zuJ_1, zuJ_2, zuJ_3, zuP_1, zuP_2, zuP_3, zuC_1, zuC_2, reduceIte, Nat.reduceEqDiff, false_and, and_false, true_and, and_true, and_self, or_true, true_or, or_false, false_or]; rw [if_pos (by omega)]; subst q; omega); (rw [if_neg q]; simp only [zuI_1, zuI_2, zuJ_1, zuJ_2, zuJ_3, zuP_1, zuP_2, zuP_3, zuC_1, zuC_2, reduceIte, Nat.reduceEqDiff, false_and, and_false, true_and, and_true, and_self, or_true, true_or, or_false, false_or]; rw [if_neg (by omega)]; exact q9.2)) hTk (fun f j h5 h17 => (t4 f j h5 h17).trans (h7_4 f j h5 h17)) hNe (by rw [hFl, if_pos hco3]; omega) (fun k hk => by rw [t1]; dsimp only; have q9 := h7_7 k hk; split <;> omega) (by simp only [zuI_1, zuI_2, zuJ_1, zuJ_2, zuJ_3, zuP_1, zuP_2, zuP_3, zuC_1, zuC_2, reduceIte, Nat.reduceEqDiff, false_and, and_false, true_and, and_true, and_self, or_true, true_or, or_false, false_or]; rw [hFl, ← h169_0]; omega) (LO_I (by show 0 ≤ _; omega) (LO_I (by show 60 ≤ _; omega) h7_9)) (by rw [zuI_ne (by decide), zuI_ne (by decide)]; exact h7_10) h7_11 (by first | omega | (simp only [zuI_1, zuI_2, zuJ_1, zuJ_2, zuJ_3, zuP_1, zuP_2, zuP_3, zuC_1, zuC_2, reduceIte, Nat.reduceEqDiff, false_and, and_false, true_and, and_true, and_self, or_true, true_or, or_false, false_or]; omega))) (zwk_s rfl (zwk_s rfl (zwk_s rfl (zwk_s rfl (zwk_n (zwk_n (zwk_n zwk_0)))))))
                refine zs_icmp_ne (tgt := 168) (pc := 146) C dX9_bakes_146 (by decide) (fun h146 => ?_) (fun h146 => ?_)
                · skip
                  exfalso; omega
                · skip
                  refine zs_aload_n (pc := 149) C dX9_bakes_149 rfl ?_
                  refine zs_getf (pc := 150) C dX9_bakes_150 w_X9_124 f_10_64 (by decide) ?_
                  refine zs_iload (pc := 153) C dX9_bakes_153 rfl ?_
                  refine zs_iald (r := 2093) (pc := 155) C dX9_bakes_155 a_93 (by decide) (by omega) rfl (r_2093 _) (fun v155 e155 l155 u155 => ?_)
                  try simp only [zuI_1, zuI_2, zuJ_1, zuJ_2, zuJ_3, zuP_1, zuP_2, zuP_3, zuC_1, zuC_2, reduceIte, Nat.reduceEqDiff, false_and, and_false, true_and, and_true, and_self, or_true, true_or, or_false, false_or] at e155
                  have y155 : v155 = W 3 co.toNat := by rw [← eX3]; exact e155.trans hr9.1
                  refine zs_aload_n (pc := 156) C dX9_bakes_156 rfl ?_
                  refine zs_geti (r := 1072) (pc := 157) C dX9_bakes_157 w_X9_391 f_10_72 rfl (r_1072 0) (fun v157 e157 l157 u157 => ?_)
                  try simp only [zuI_1, zuI_2, zuJ_1, zuJ_2, zuJ_3, zuP_1, zuP_2, zuP_3, zuC_1, zuC_2, reduceIte, Nat.reduceEqDiff, false_and, and_false, true_and, and_true, and_self, or_true, true_or, or_false, false_or] at e157
                  have y157 : v157 = (G.1 1072 w 0) := e157.trans (by rw [h7_1.1 1072 (by decide)])
                  refine zs_icmp_lt (tgt := 168) (pc := 160) C dX9_bakes_160 (by decide) (fun h160 => ?_) (fun h160 => ?_)
                  · skip
                    refine zs_iconst (pc := 168) C dX9_bakes_168 (by decide) ?_
                    exact zs_wk (J169 _ (by first | (rw [if_pos (by omega)]) | (rw [if_neg (by omega)]))) (zwk_s rfl (zwk_s rfl (zwk_s rfl (zwk_s rfl (zwk_s rfl (zwk_s rfl (zwk_n zwk_0)))))))
                  · skip
                    refine zs_iload (pc := 163) C dX9_bakes_163 rfl ?_
                    refine zs_goto (tgt := 169) (pc := 165) C dX9_bakes_165 (by decide) ?_
                    exact zs_wk (J169 _ (by first | (rw [if_pos (by omega)]) | (rw [if_neg (by omega)]))) (zwk_s rfl (zwk_s rfl (zwk_s rfl (zwk_s rfl (zwk_s rfl (zwk_s rfl (zwk_n zwk_0)))))))
              refine zs_icmp_ge (tgt := 119) (pc := 106) C dX9_bakes_106 (by decide) (fun h106 => ?_) (fun h106 => ?_)
              · skip
                refine zs_iload_n (pc := 119) C dX9_bakes_119 rfl ?_
                exact zs_wk (J120 _ (by omega)) (zwk_s rfl (zwk_s rfl (zwk_s rfl (zwk_s rfl (zwk_s rfl (zwk_n (zwk_n zwk_0)))))))
              · skip
                refine zs_aload_n (pc := 109) C dX9_bakes_109 rfl ?_
                refine zs_getf (pc := 110) C dX9_bakes_110 w_X9_127 f_10_65 (by decide) ?_
                refine zs_iload (pc := 113) C dX9_bakes_113 rfl ?_
                refine zs_iald (r := 2094) (pc := 115) C dX9_bakes_115 a_94 (by decide) (by omega) rfl (r_2094 _) (fun v115 e115 l115 u115 => ?_)
                have y115 : v115 = X 5 co.toNat := e115.trans hr9.2
                refine zs_goto (tgt := 120) (pc := 116) C dX9_bakes_116 (by decide) ?_
                exact zs_wk (J120 _ (by omega)) (zwk_s rfl (zwk_s rfl (zwk_s rfl (zwk_s rfl (zwk_s rfl (zwk_n (zwk_n zwk_0)))))))
            · skip
              have hs := wCo_s (W := X) (a := A 9 c.toNat) (k := x5) (by omega)
              have hr5 := h7_2 x5.toNat (by omega)
              rw [show (60 * 1 + (x5.toNat : Int)).toNat = (60 * 1 + x5).toNat by omega] at hr5
              have hk5 := h7_7 x5.toNat (by omega)
              refine zs_bipush (pc := 28) C dX9_bakes_28 (by decide) (by decide) ?_
              refine zs_iload_n (pc := 30) C dX9_bakes_30 rfl ?_
              first | refine zs_imul (pc := 31) C dX9_bakes_31 (by omega) ?_ | refine zs_imulF (pc := 31) C dX9_bakes_31 (fun z31 hz311 hz312 => ?_)
              refine zs_iload (pc := 32) C dX9_bakes_32 rfl ?_
              first | refine zs_iadd (pc := 34) C dX9_bakes_34 (by omega) ?_ | refine zs_iaddF (pc := 34) C dX9_bakes_34 (fun z34 hz341 hz342 => ?_)
              refine zs_istore (pc := 35) C dX9_bakes_35 (by decide) ?_
              dsimp only [zset, zclr, znone]
              refine zs_aload_n (pc := 37) C dX9_bakes_37 rfl ?_
              refine zs_getf (pc := 38) C dX9_bakes_38 w_X9_127 f_10_65 (by decide) ?_
              refine zs_iload (pc := 41) C dX9_bakes_41 rfl ?_
              refine zs_iald (r := 2094) (pc := 43) C dX9_bakes_43 a_94 (by decide) (by omega) rfl (r_2094 _) (fun v43 e43 l43 u43 => ?_)
              have J92 : ∀ (y4 : Int), ((y4 = -1 ∧ wCo (X 3) (X 5) (A 9 c.toNat) (x5 + 1).toNat = -1) ∨ (wCo (X 3) (X 5) (A 9 c.toNat) (x5 + 1).toNat ≠ -1 ∧ y4 = 60 * 1 + wCo (X 3) (X 5) (A 9 c.toNat) (x5 + 1).toNat ∧ 60 * 1 ≤ y4 ∧ y4 < 60 * 1 + (x5 + 1))) → Z p l e (zrm 0) s m args below meth cx9 Γ 7 0 0 (MQ below (zQc Γ (zpv (fun G' => zsm [2094, 2086, 1073] G G' ∧ (rW Γ w 1 (wBake A W c) G' ∧ G'.1 1073 w 0 = G.1 1073 w 0 + (wFlour W (G.1 1072 w 0) - wFlour (wBake A W c) (G.1 1072 w 0)) ∧ LO G G' ∧ G'.2.1 = G.2.1)))) args s 0 0 (zA Γ)) 92 [some (zr 10 w), some (zi 1), some (zi c), some (zi x3), some (zi y4), some (zi x5), none] [] G1 := by
                intro y4 h92_0
                first | refine zs_iinc (pc := 92) C dX9_bakes_92 rfl (by decide) (by omega) ?_ | refine zs_iincF (pc := 92) C dX9_bakes_92 rfl (by decide) (fun z92 hz921 hz922 => ?_)
                dsimp only [zset, zclr, znone]
                refine zs_goto (tgt := 17) (pc := 95) C dX9_bakes_95 (by decide) ?_
                exact zs_wk (ih17 _ _ (by omega) h92_0 (by first | omega | (simp only [zuI_1, zuI_2, zuJ_1, zuJ_2, zuJ_3, zuP_1, zuP_2, zuP_3, zuC_1, zuC_2, reduceIte, Nat.reduceEqDiff, false_and, and_false, true_and, and_true, and_self, or_true, true_or, or_false, false_or]; omega))) (zwk_s rfl (zwk_s rfl (zwk_s rfl (zwk_s rfl (zwk_s rfl (zwk_s rfl (zwk_n zwk_0)))))))
              have y43 : v43 = X 5 x5.toNat := e43.trans hr5.2
              refine zs_if_eq (tgt := 92) (pc := 44) C dX9_bakes_44 (by decide) (fun h44 => ?_) (fun h44 => ?_)
              · skip
                exact zs_wk (J92 _ (by first | (rw [hs, if_neg (by rintro ⟨q1, q2, q3⟩; first | omega | (rcases q3 with q3 | q3 <;> omega))]; rcases h17_1 with ⟨q1, q2⟩ | ⟨q1, q2, q3, q4⟩; exact Or.inl ⟨q1, q2⟩; exact Or.inr ⟨q1, q2, q3, by omega⟩) | (rw [hs, if_pos (by first | exact ⟨by omega, by omega, Or.inl (by omega)⟩ | exact ⟨by omega, by omega, Or.inr (by omega)⟩)]; exact Or.inr ⟨by omega, by omega, by omega, by omega⟩))) (zwk_s rfl (zwk_s rfl (zwk_s rfl (zwk_s rfl (zwk_s rfl (zwk_s rfl (zwk_n zwk_0)))))))
              · skip
                refine zs_aload_n (pc := 47) C dX9_bakes_47 rfl ?_
                refine zs_getf (pc := 48) C dX9_bakes_48 w_X9_124 f_10_64 (by decide) ?_
                refine zs_iload (pc := 51) C dX9_bakes_51 rfl ?_
                refine zs_iald (r := 2093) (pc := 53) C dX9_bakes_53 a_93 (by decide) (by omega) rfl (r_2093 _) (fun v53 e53 l53 u53 => ?_)
                refine zs_aload_n (pc := 54) C dX9_bakes_54 rfl ?_
                refine zs_getf (pc := 55) C dX9_bakes_55 w_X9_45 f_10_30 (by decide) ?_
                refine zs_iload_n (pc := 58) C dX9_bakes_58 rfl ?_
                refine zs_iald (r := 2067) (pc := 59) C dX9_bakes_59 a_67 (by decide) (by omega) rfl (r_2067 _) (fun v59 e59 l59 u59 => ?_)
                have y53 : v53 = X 3 x5.toNat := e53.trans hr5.1
                have y59 : v59 = A 9 c.toNat := e59.trans q67
                refine zs_icmp_ge (tgt := 66) (pc := 60) C dX9_bakes_60 (by decide) (fun h60 => ?_) (fun h60 => ?_)
                · skip
                  refine zs_iload (pc := 66) C dX9_bakes_66 rfl ?_
                  refine zs_if_lt (tgt := 88) (pc := 68) C dX9_bakes_68 (by decide) (fun h68 => ?_) (fun h68 => ?_)
                  · skip
                    refine zs_iload (pc := 88) C dX9_bakes_88 rfl ?_
                    refine zs_istore (pc := 90) C dX9_bakes_90 (by decide) ?_
                    dsimp only [zset, zclr, znone]
                    exact zs_wk (J92 _ (by first | (rw [hs, if_neg (by rintro ⟨q1, q2, q3⟩; first | omega | (rcases q3 with q3 | q3 <;> omega))]; rcases h17_1 with ⟨q1, q2⟩ | ⟨q1, q2, q3, q4⟩; exact Or.inl ⟨q1, q2⟩; exact Or.inr ⟨q1, q2, q3, by omega⟩) | (rw [hs, if_pos (by first | exact ⟨by omega, by omega, Or.inl (by omega)⟩ | exact ⟨by omega, by omega, Or.inr (by omega)⟩)]; exact Or.inr ⟨by omega, by omega, by omega, by omega⟩))) (zwk_s rfl (zwk_s rfl (zwk_s rfl (zwk_s rfl (zwk_s rfl (zwk_s rfl (zwk_n zwk_0)))))))
                  · skip
                    refine zs_aload_n (pc := 71) C dX9_bakes_71 rfl ?_
                    refine zs_getf (pc := 72) C dX9_bakes_72 w_X9_124 f_10_64 (by decide) ?_
                    refine zs_iload (pc := 75) C dX9_bakes_75 rfl ?_
                    refine zs_iald (r := 2093) (pc := 77) C dX9_bakes_77 a_93 (by decide) (by omega) rfl (r_2093 _) (fun v77 e77 l77 u77 => ?_)
                    refine zs_aload_n (pc := 78) C dX9_bakes_78 rfl ?_
                    refine zs_getf (pc := 79) C dX9_bakes_79 w_X9_124 f_10_64 (by decide) ?_
                    refine zs_iload (pc := 82) C dX9_bakes_82 rfl ?_
                    refine zs_iald (r := 2093) (pc := 84) C dX9_bakes_84 a_93 (by decide) (by omega) rfl (r_2093 _) (fun v84 e84 l84 u84 => ?_)
                    have y77 : v77 = X 3 x5.toNat := e77.trans hr5.1
                    have hq84 : v84 = X 3 (wCo (X 3) (X 5) (A 9 c.toNat) x5.toNat).toNat := by
                      rcases h17_1 with q | q
                      · omega
                      · have hi := (wCo_in (F := X 3) (H := X 5) (a := A 9 c.toNat) x5.toNat).resolve_left q.1
                        have hr8 := h7_2 (wCo (X 3) (X 5) (A 9 c.toNat) x5.toNat).toNat (by omega)
                        rw [show (60 * 1 + ((wCo (X 3) (X 5) (A 9 c.toNat) x5.toNat).toNat : Int)).toNat = x4.toNat by omega] at hr8
                        exact e84.trans hr8.1
                    refine zs_icmp_ge (tgt := 92) (pc := 85) C dX9_bakes_85 (by decide) (fun h85 => ?_) (fun h85 => ?_)
                    · skip
                      exact zs_wk (J92 _ (by first | (rw [hs, if_neg (by rintro ⟨q1, q2, q3⟩; first | omega | (rcases q3 with q3 | q3 <;> omega))]; rcases h17_1 with ⟨q1, q2⟩ | ⟨q1, q2, q3, q4⟩; exact Or.inl ⟨q1, q2⟩; exact Or.inr ⟨q1, q2, q3, by omega⟩) | (rw [hs, if_pos (by first | exact ⟨by omega, by omega, Or.inl (by omega)⟩ | exact ⟨by omega, by omega, Or.inr (by omega)⟩)]; exact Or.inr ⟨by omega, by omega, by omega, by omega⟩))) (zwk_s rfl (zwk_s rfl (zwk_s rfl (zwk_s rfl (zwk_s rfl (zwk_s rfl (zwk_n zwk_0)))))))
                    · skip
                      refine zs_iload (pc := 88) C dX9_bakes_88 rfl ?_
                      refine zs_istore (pc := 90) C dX9_bakes_90 (by decide) ?_
                      dsimp only [zset, zclr, znone]
                      exact zs_wk (J92 _ (by first | (rw [hs, if_neg (by rintro ⟨q1, q2, q3⟩; first | omega | (rcases q3 with q3 | q3 <;> omega))]; rcases h17_1 with ⟨q1, q2⟩ | ⟨q1, q2, q3, q4⟩; exact Or.inl ⟨q1, q2⟩; exact Or.inr ⟨q1, q2, q3, by omega⟩) | (rw [hs, if_pos (by first | exact ⟨by omega, by omega, Or.inl (by omega)⟩ | exact ⟨by omega, by omega, Or.inr (by omega)⟩)]; exact Or.inr ⟨by omega, by omega, by omega, by omega⟩))) (zwk_s rfl (zwk_s rfl (zwk_s rfl (zwk_s rfl (zwk_s rfl (zwk_s rfl (zwk_n zwk_0)))))))
                · skip
                  refine zs_goto (tgt := 92) (pc := 63) C dX9_bakes_63 (by decide) ?_
                  exact zs_wk (J92 _ (by first | (rw [hs, if_neg (by rintro ⟨q1, q2, q3⟩; first | omega | (rcases q3 with q3 | q3 <;> omega))]; rcases h17_1 with ⟨q1, q2⟩ | ⟨q1, q2, q3, q4⟩; exact Or.inl ⟨q1, q2⟩; exact Or.inr ⟨q1, q2, q3, by omega⟩) | (rw [hs, if_pos (by first | exact ⟨by omega, by omega, Or.inl (by omega)⟩ | exact ⟨by omega, by omega, Or.inr (by omega)⟩)]; exact Or.inr ⟨by omega, by omega, by omega, by omega⟩))) (zwk_s rfl (zwk_s rfl (zwk_s rfl (zwk_s rfl (zwk_s rfl (zwk_s rfl (zwk_n zwk_0)))))))
        exact zs_wk (L17 _ _ _ (by omega) (Or.inl ⟨rfl, rfl⟩) (Nat.lt_succ_self _)) (zwk_s rfl (zwk_s rfl (zwk_s rfl (zwk_s rfl (zwk_s rfl (zwk_s rfl (zwk_n zwk_0)))))))
  exact zs_wk (L7 _ _ _ _ _ (by omega) zsm_rf (fun k hk => by rw [wTk0_f (by decide), wTk0_f (by decide)]; exact rC k hk) rfl (fun f j h5 h17 => wTk0_f h17 60) (Or.inr (by have q := wNe_le ((wTk0 W c 60) 5) (W 0 0).toNat; omega)) (by rw [show (wTk0 W c 60) 5 = W 5 from funext (fun j => wTk0_f (by decide) 60)]; exact hcb.2) (fun k hk => by rw [wTk0_f (by decide)]; have q := hW.2.1 k hk; omega) (by rw [show (wTk0 W c 60) 5 = W 5 from funext (fun j => wTk0_f (by decide) 60)]; omega) LO_rf rfl rfl (Nat.lt_succ_self _)) (zwk_s rfl (zwk_s rfl (zwk_s rfl (zwk_s rfl (zwk_n (zwk_n (zwk_n zwk_0)))))))
