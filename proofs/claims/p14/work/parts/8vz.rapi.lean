theorem rS_I {Γ : zΓ} {w : Nat} {W : aS} {G : zH} {r a i : Nat} {x : Int} (hr : ∀ r' ∈ [2091, 2092, 2095, 2096, 2097, 2098, 2099, 2100, 1083], r' ≠ r) (h : rS Γ w W G) : rS Γ w W (zuI G r a i x) := rS_sm (rs := [r]) (zsm_I (by simp) zsm_rf) (fun r' h9 q => hr r' h9 (by simpa using q)) h
theorem rS_J {Γ : zΓ} {w : Nat} {W : aS} {G : zH} {r a i : Nat} {x : Int} (h : rS Γ w W G) : rS Γ w W (zuJ G r a i x) := h
theorem bR_I {Γ : zΓ} {w : Nat} {Ws : Nat → aS} {n : Int} {G : zH} {r a i : Nat} {x : Int} (hr : 2105 ≠ r) (h : bR Γ w Ws n G) : bR Γ w Ws n (zuI G r a i x) := bR_z (rs := [r]) (zsm_I (by simp) zsm_rf) (by simpa using hr) h
theorem bR_J {Γ : zΓ} {w : Nat} {Ws : Nat → aS} {n : Int} {G : zH} {r a i : Nat} {x : Int} (h : bR Γ w Ws n G) : bR Γ w Ws n (zuJ G r a i x) := h
/-- one more can be taken back; as many as before -/
def rU (Γ : zΓ) (w : Nat) (Ws : Nat → aS) (n : Int) (G : zH) : Prop := (n < 20 → bR Γ w Ws (n + 1) G ∧ G.1 1084 w 0 = n + 1) ∧ (¬ n < 20 → bR Γ w (fun i => Ws (i + 1)) 20 G ∧ G.1 1084 w 0 = 20)
def rN (Γ : zΓ) (w : Nat) (Ws : Nat → aS) (n : Int) (G : zH) : Prop := bR Γ w Ws n G ∧ G.1 1084 w 0 = n
theorem rU_z {Γ : zΓ} {w : Nat} {Ws : Nat → aS} {n : Int} {G G1 : zH} {rs : List Nat} (hs : zsm rs G G1) (hr : 2105 ∉ rs ∧ 1084 ∉ rs) (h : rU Γ w Ws n G) : rU Γ w Ws n G1 := ⟨fun q => ⟨bR_z hs hr.1 (h.1 q).1, by rw [hs.1 1084 hr.2]; exact (h.1 q).2⟩, fun q => ⟨bR_z hs hr.1 (h.2 q).1, by rw [hs.1 1084 hr.2]; exact (h.2 q).2⟩⟩
theorem rN_z {Γ : zΓ} {w : Nat} {Ws : Nat → aS} {n : Int} {G G1 : zH} {rs : List Nat} (hs : zsm rs G G1) (hr : 2105 ∉ rs ∧ 1084 ∉ rs) (h : rN Γ w Ws n G) : rN Γ w Ws n G1 := ⟨bR_z hs hr.1 h.1, by rw [hs.1 1084 hr.2]; exact h.2⟩
theorem rD_j {w : Nat} {W V : aS} {G G1 : zH} {rs : List Nat} (hs : zsj rs G G1) (hr : 1061 ∉ rs) (h : rD w W G) (e : V 21 0 = W 21 0) : rD w V G1 := by
  unfold rD
  rw [hs 1061 hr, e]
  exact h
theorem rS_21 {Γ : zΓ} {w : Nat} {W V : aS} {G : zH} (e : ∀ f j : Nat, f ≠ 21 → V f j = W f j) (h : rS Γ w W G) : rS Γ w V G := rS_W (fun f j hf => e f j (by omega)) h
theorem rW_21 {Γ : zΓ} {w : Nat} {b : Int} {W V : aS} {G : zH} (e : ∀ f j : Nat, f ≠ 21 → V f j = W f j) (h : rW Γ w b W G) : rW Γ w b V G := by
  obtain ⟨f1, f2, ⟨f4, f5, f6, f7⟩, f3⟩ := h
  refine ⟨fun j hj => ?_, fun j hj => ?_, ⟨f4.trans (e 0 0 (by decide)).symm, f5.trans (e 19 0 (by decide)).symm, f6.trans (e 20 0 (by decide)).symm, f7.trans (e 18 0 (by decide)).symm⟩, fun k hk => ?_⟩
  · rw [e 11 j (by decide), e 12 j (by decide)]; exact f1 j hj
  · rw [e 13 j (by decide), e 14 j (by decide), e 15 j (by decide), e 16 j (by decide)]; exact f2 j hj
  · rw [e 3 k (by decide), e 5 k (by decide)]; exact f3 k (by rw [← e 0 0 (by decide)]; exact hk)
theorem wLies_0 {A W : aS} {p : Int} {f j : Nat} (hf : f ≠ 21) : ∀ m : Nat, (wLies A p m W).2 f j = W f j
  | 0 => rfl
  | m + 1 => by
    show (wAsk A (wLies A p m W).2 p) f j = _
    rw [wAsk_0 hf]
    exact wLies_0 hf m
/-- a fall on this side -/
theorem rW_fall {Γ : zΓ} {w : Nat} {p s : Int} {W : aS} {G : zH} (hp : 0 ≤ p ∧ p ≤ 4) (hs : 0 ≤ s ∧ s ≤ 3) (h : rW Γ w 0 W G) : rW Γ w 0 (wFall W p s) (zuI (zuI G 2081 (Γ.2.1 w 51) (4 * p + s).toNat (W 11 (p * 4 + s).toNat + 1)) 2085 (Γ.2.1 w 55) p.toNat (W 15 p.toNat + 1)) := by
  have f11 : ∀ j, (wFall W p s) 11 j = if j = (p * 4 + s).toNat then W 11 (p * 4 + s).toNat + 1 else W 11 j := fun j => by unfold wFall; simp (disch := decide) only [up_f, up_at]
  have f12 : ∀ j, (wFall W p s) 12 j = if j = (p * 4 + s).toNat then W 12 (p * 4 + s).toNat + 1 else W 12 j := fun j => by unfold wFall; simp (disch := decide) only [up_f, up_at]
  have f15 : ∀ j, (wFall W p s) 15 j = if j = p.toNat then W 15 p.toNat + 1 else W 15 j := fun j => by unfold wFall; simp (disch := decide) only [up_f, up_at]
  have ff : ∀ f j, f ≠ 11 → f ≠ 12 → f ≠ 15 → (wFall W p s) f j = W f j := fun f j h1 h2 h3 => by unfold wFall; rw [up_f h3, up_f h2, up_f h1]
  generalize wFall W p s = V at *
  obtain ⟨r1, r2, ⟨r4, r5, r6, r7⟩, r3⟩ := h
  refine ⟨fun j hj => ?_, fun j hj => ?_, ⟨?_, ?_, ?_, ?_⟩, fun k hk => ?_⟩
  · have q := r1 j hj
    rw [f11, f12]
    by_cases z : j = (p * 4 + s).toNat
    · rw [if_pos z, if_pos z, ← z]
      exact ⟨ly_ne (Or.inl (by decide)) (ly_at rfl (by omega)), ly_ne (Or.inl (by decide)) (ly_ne (Or.inl (by decide)) (by rw [q.2]; omega))⟩
    · rw [if_neg z, if_neg z]
      exact ⟨ly_ne (Or.inl (by decide)) (ly_ne (Or.inr (by omega)) q.1), ly_ne (Or.inl (by decide)) (ly_ne (Or.inl (by decide)) q.2)⟩
  · obtain ⟨q1, q2, q3, q4⟩ := r2 j hj
    rw [ff 13 j (by decide) (by decide) (by decide), ff 14 j (by decide) (by decide) (by decide), ff 16 j (by decide) (by decide) (by decide), f15]
    refine ⟨ly_ne (Or.inl (by decide)) (ly_ne (Or.inl (by decide)) q1), ly_ne (Or.inl (by decide)) (ly_ne (Or.inl (by decide)) q2), ?_, ly_ne (Or.inl (by decide)) (ly_ne (Or.inl (by decide)) q4)⟩
    by_cases z : j = p.toNat
    · rw [if_pos z]; exact ly_at rfl (by omega)
    · rw [if_neg z]; exact ly_ne (Or.inr (by omega)) (ly_ne (Or.inl (by decide)) q3)
  · rw [ff 0 0 (by decide) (by decide) (by decide)]; exact ly_ne (Or.inl (by decide)) (ly_ne (Or.inl (by decide)) r4)
  · rw [ff 19 0 (by decide) (by decide) (by decide)]; exact ly_ne (Or.inl (by decide)) (ly_ne (Or.inl (by decide)) r5)
  · rw [ff 20 0 (by decide) (by decide) (by decide)]; exact ly_ne (Or.inl (by decide)) (ly_ne (Or.inl (by decide)) r6)
  · rw [ff 18 0 (by decide) (by decide) (by decide)]; exact ly_ne (Or.inl (by decide)) (ly_ne (Or.inl (by decide)) r7)
  · rw [ff 3 k (by decide) (by decide) (by decide), ff 5 k (by decide) (by decide) (by decide)]
    have q := r3 k (by rw [← ff 0 0 (by decide) (by decide) (by decide)]; exact hk)
    exact ⟨ly_ne (Or.inl (by decide)) (ly_ne (Or.inl (by decide)) q.1), ly_ne (Or.inl (by decide)) (ly_ne (Or.inl (by decide)) q.2)⟩

set_option maxHeartbeats 4000000 in
set_option maxRecDepth 100000 in
theorem c_X9_didW {l : Launch} {Γ : zΓ} {G : zH} {w : Nat} {p s k : Int} {A W : aS}  (hX : zXs Γ) (hR : rW Γ w 0 W G) (hK : kR Γ w A G) (hW : WI A W) (hT : TA A)  : zMet l Γ yX9_did cX9_did 4 (some .int) 1 [zr 10 w, zi p, zi s, zi k] G (zpi (fun x G' => zsm [1002] G G' ∧ RO G G' ∧ (x = if ((0 ≤ p ∧ p < A 4 1) ∧ (0 ≤ s ∧ s < A 4 0)) then (if k = 0 then W 11 (p * 4 + s).toNat else if k = 1 then wL W p s else -1) else -1))) := by
  refine zMet_of RX9 hX (by decide) rfl (Nat.le_of_ble_eq_true rfl) ?_
  intro px9 e sx9 m args below meth c C hr hlk
  show Z px9 l e (zrm 1) sx9 m args below meth c Γ 4 0 0 (MQ below (zQc Γ (zpi (fun x G' => zsm [1002] G G' ∧ RO G G' ∧ (x = if ((0 ≤ p ∧ p < A 4 1) ∧ (0 ≤ s ∧ s < A 4 0)) then (if k = 0 then W 11 (p * 4 + s).toNat else if k = 1 then wL W p s else -1) else -1)))) args sx9 0 0 (zA Γ)) 0 [some (zr 10 w), some (zi p), some (zi s), some (zi k)] [] G
  refine zs_loc 1 rfl (fun ha1 hb1 => ?_)
  refine zs_loc 2 rfl (fun ha2 hb2 => ?_)
  refine zs_loc 3 rfl (fun ha3 hb3 => ?_)
  have hT0 := hT.1
  refine zs_aload_n (pc := 0) C dX9_did_0 rfl ?_
  refine zs_iconst (pc := 1) C dX9_did_1 (by decide) ?_
  refine zs_puti (r := 1002) (pc := 2) C dX9_did_2 w_X9_178 f_10_2 rfl (r_1002 0) (by omega) ?_
  refine zs_aload_n (pc := 5) C dX9_did_5 rfl ?_
  refine zs_iload_n (pc := 6) C dX9_did_6 rfl ?_
  refine zVip1 (pc := 7) C dX9_did_7 v_X9_398 (c_X9_isPersonW (A := A) hX (by repeat (first | assumption | refine kR_sm (by assumption) (by decide) ?_ | refine kR_I (by decide) ?_ | refine kR_J ?_))) (by decide) (by decide) ⟨Nat.zero_le _, Nat.zero_le _⟩ (Nat.le_of_ble_eq_true rfl) (fun x7 l7 u7 hp7 => ?_)
  have hq7 := hp7
  try simp only [zuI_1, zuI_2, zuJ_1, zuJ_2, zuJ_3, zuP_1, zuP_2, zuP_3, zuC_1, zuC_2, reduceIte, Nat.reduceEqDiff, false_and, and_false, true_and, and_true, and_self, or_true, true_or, or_false, false_or] at hq7
  refine zs_if_eq (tgt := 21) (pc := 10) C dX9_did_10 (by decide) (fun h10 => ?_) (fun h10 => ?_)
  · skip
    refine zs_iconst (pc := 21) C dX9_did_21 (by decide) ?_
    exact zs_iret (pc := 22) C hr hlk dX9_did_22 ⟨by repeat (first | exact zsm_rf | assumption | refine zsm_C (by decide) ?_ | refine zsm_I (by decide) ?_ | refine zsm_J ?_ | refine zsm_c (by assumption) (by decide) ?_), (by with_reducible repeat (first | exact RO_rf | assumption | refine RO_0 (by decide) ?_ | refine RO_n 20 (by decide) (by omega) ?_ | refine RO_n 5 (by decide) (by omega) ?_ | refine RO_n 60 (by decide) (by omega) ?_ | refine RO_n 1 (by decide) (by omega) ?_ | refine RO_J (by decide) ?_ | refine RO_c (by assumption) ?_)), (by rw [if_neg (fun z => by have q1 := hq7.2.mpr z.1; first | omega | (have q2 := hq15.2.mpr z.2; omega))])⟩
  · skip
    refine zs_aload_n (pc := 13) C dX9_did_13 rfl ?_
    refine zs_iload_n (pc := 14) C dX9_did_14 rfl ?_
    refine zVip1 (pc := 15) C dX9_did_15 v_X9_407 (c_X9_isSinW (A := A) hX (by repeat (first | assumption | refine kR_sm (by assumption) (by decide) ?_ | refine kR_I (by decide) ?_ | refine kR_J ?_))) (by decide) (by decide) ⟨Nat.zero_le _, Nat.zero_le _⟩ (Nat.le_of_ble_eq_true rfl) (fun x15 l15 u15 hp15 => ?_)
    have hq15 := hp15
    try simp only [zuI_1, zuI_2, zuJ_1, zuJ_2, zuJ_3, zuP_1, zuP_2, zuP_3, zuC_1, zuC_2, reduceIte, Nat.reduceEqDiff, false_and, and_false, true_and, and_true, and_self, or_true, true_or, or_false, false_or] at hq15
    refine zs_if_ne (tgt := 23) (pc := 18) C dX9_did_18 (by decide) (fun h18 => ?_) (fun h18 => ?_)
    · skip
      refine zs_iload_n (pc := 23) C dX9_did_23 rfl ?_
      refine zs_if_ne (tgt := 40) (pc := 24) C dX9_did_24 (by decide) (fun h24 => ?_) (fun h24 => ?_)
      · skip
        refine zs_iload_n (pc := 40) C dX9_did_40 rfl ?_
        refine zs_iconst (pc := 41) C dX9_did_41 (by decide) ?_
        refine zs_icmp_ne (tgt := 55) (pc := 42) C dX9_did_42 (by decide) (fun h42 => ?_) (fun h42 => ?_)
        · skip
          refine zs_iconst (pc := 55) C dX9_did_55 (by decide) ?_
          exact zs_iret (pc := 56) C hr hlk dX9_did_56 ⟨by repeat (first | exact zsm_rf | assumption | refine zsm_C (by decide) ?_ | refine zsm_I (by decide) ?_ | refine zsm_J ?_ | refine zsm_c (by assumption) (by decide) ?_), (by with_reducible repeat (first | exact RO_rf | assumption | refine RO_0 (by decide) ?_ | refine RO_n 20 (by decide) (by omega) ?_ | refine RO_n 5 (by decide) (by omega) ?_ | refine RO_n 60 (by decide) (by omega) ?_ | refine RO_n 1 (by decide) (by omega) ?_ | refine RO_J (by decide) ?_ | refine RO_c (by assumption) ?_)), (by rw [if_pos ⟨hq7.2.mp (by omega), hq15.2.mp (by omega)⟩]; first | (rw [if_pos (by omega)]; omega) | (rw [if_neg (by omega), if_pos (by omega)]; omega) | (rw [if_neg (by omega), if_neg (by omega)]))⟩
        · skip
          refine zs_aload_n (pc := 45) C dX9_did_45 rfl ?_
          refine zs_iconst (pc := 46) C dX9_did_46 (by decide) ?_
          refine zs_iload_n (pc := 47) C dX9_did_47 rfl ?_
          refine zs_iload_n (pc := 48) C dX9_did_48 rfl ?_
          refine zVip3 (pc := 49) C dX9_did_49 v_X9_394 (c_X9_leftOfW hX (Or.inl rfl) (by omega) (by omega) (rL_I (by decide) hR.1) (WI_WL hW)) (by decide) (by decide) ⟨Nat.zero_le _, Nat.zero_le _⟩ (Nat.le_of_ble_eq_true rfl) (fun x49 l49 u49 hp49 => ?_)
          have hq49 := hp49
          try simp only [zuI_1, zuI_2, zuJ_1, zuJ_2, zuJ_3, zuP_1, zuP_2, zuP_3, zuC_1, zuC_2, reduceIte, Nat.reduceEqDiff, false_and, and_false, true_and, and_true, and_self, or_true, true_or, or_false, false_or] at hq49
          refine zs_goto (tgt := 56) (pc := 52) C dX9_did_52 (by decide) ?_
          exact zs_iret (pc := 56) C hr hlk dX9_did_56 ⟨by repeat (first | exact zsm_rf | assumption | refine zsm_C (by decide) ?_ | refine zsm_I (by decide) ?_ | refine zsm_J ?_ | refine zsm_c (by assumption) (by decide) ?_), (by with_reducible repeat (first | exact RO_rf | assumption | refine RO_0 (by decide) ?_ | refine RO_n 20 (by decide) (by omega) ?_ | refine RO_n 5 (by decide) (by omega) ?_ | refine RO_n 60 (by decide) (by omega) ?_ | refine RO_n 1 (by decide) (by omega) ?_ | refine RO_J (by decide) ?_ | refine RO_c (by assumption) ?_)), (by rw [if_pos ⟨hq7.2.mp (by omega), hq15.2.mp (by omega)⟩]; first | (rw [if_pos (by omega)]; omega) | (rw [if_neg (by omega), if_pos (by omega)]; omega) | (rw [if_neg (by omega), if_neg (by omega)]))⟩
      · skip
        refine zs_aload_n (pc := 27) C dX9_did_27 rfl ?_
        refine zs_getf (pc := 28) C dX9_did_28 w_X9_88 f_10_51 (by decide) ?_
        refine zs_iconst (pc := 31) C dX9_did_31 (by decide) ?_
        refine zs_iload_n (pc := 32) C dX9_did_32 rfl ?_
        first | refine zs_imul (pc := 33) C dX9_did_33 (by omega) ?_ | refine zs_imulF (pc := 33) C dX9_did_33 (fun z33 hz331 hz332 => ?_)
        refine zs_iload_n (pc := 34) C dX9_did_34 rfl ?_
        first | refine zs_iadd (pc := 35) C dX9_did_35 (by omega) ?_ | refine zs_iaddF (pc := 35) C dX9_did_35 (fun z35 hz351 hz352 => ?_)
        refine zs_iald (r := 2081) (pc := 36) C dX9_did_36 a_81 (by decide) (by omega) rfl (r_2081 _) (fun v36 e36 l36 u36 => ?_)
        try simp only [zuI_1, zuI_2, zuJ_1, zuJ_2, zuJ_3, zuP_1, zuP_2, zuP_3, zuC_1, zuC_2, reduceIte, Nat.reduceEqDiff, false_and, and_false, true_and, and_true, and_self, or_true, true_or, or_false, false_or] at e36
        have y36 : v36 = W 11 (p * 4 + s).toNat := by have q := (hR.1 (p * 4 + s).toNat (by omega)).1; rw [show (20 * (0 : Int) + ((p * 4 + s).toNat : Int)).toNat = (4 * p + s).toNat by omega] at q; exact e36.trans q
        refine zs_goto (tgt := 56) (pc := 37) C dX9_did_37 (by decide) ?_
        exact zs_iret (pc := 56) C hr hlk dX9_did_56 ⟨by repeat (first | exact zsm_rf | assumption | refine zsm_C (by decide) ?_ | refine zsm_I (by decide) ?_ | refine zsm_J ?_ | refine zsm_c (by assumption) (by decide) ?_), (by with_reducible repeat (first | exact RO_rf | assumption | refine RO_0 (by decide) ?_ | refine RO_n 20 (by decide) (by omega) ?_ | refine RO_n 5 (by decide) (by omega) ?_ | refine RO_n 60 (by decide) (by omega) ?_ | refine RO_n 1 (by decide) (by omega) ?_ | refine RO_J (by decide) ?_ | refine RO_c (by assumption) ?_)), (by rw [if_pos ⟨hq7.2.mp (by omega), hq15.2.mp (by omega)⟩]; first | (rw [if_pos (by omega)]; omega) | (rw [if_neg (by omega), if_pos (by omega)]; omega) | (rw [if_neg (by omega), if_neg (by omega)]))⟩
    · skip
      refine zs_iconst (pc := 21) C dX9_did_21 (by decide) ?_
      exact zs_iret (pc := 22) C hr hlk dX9_did_22 ⟨by repeat (first | exact zsm_rf | assumption | refine zsm_C (by decide) ?_ | refine zsm_I (by decide) ?_ | refine zsm_J ?_ | refine zsm_c (by assumption) (by decide) ?_), (by with_reducible repeat (first | exact RO_rf | assumption | refine RO_0 (by decide) ?_ | refine RO_n 20 (by decide) (by omega) ?_ | refine RO_n 5 (by decide) (by omega) ?_ | refine RO_n 60 (by decide) (by omega) ?_ | refine RO_n 1 (by decide) (by omega) ?_ | refine RO_J (by decide) ?_ | refine RO_c (by assumption) ?_)), (by rw [if_neg (fun z => by have q1 := hq7.2.mpr z.1; first | omega | (have q2 := hq15.2.mpr z.2; omega))])⟩

set_option maxHeartbeats 4000000 in
set_option maxRecDepth 100000 in
theorem c_X9_fineW {l : Launch} {Γ : zΓ} {G : zH} {w : Nat} {p s : Int} {A W : aS}  (hX : zXs Γ) (hR : rW Γ w 0 W G) (hK : kR Γ w A G) (hW : WI A W) (hT : TA A)  : zMet l Γ yX9_fine cX9_fine 3 (some .int) 5 [zr 10 w, zi p, zi s] G (zpi (fun x G' => zsm [1002, 1050] G G' ∧ (x = (if ((0 ≤ p ∧ p < A 4 1) ∧ (0 ≤ s ∧ s < A 4 0)) then wFine A W p s else -1) ∧ zsj [2079, 2080] G G'))) := by
  refine zMet_of RX9 hX (by decide) rfl (Nat.le_of_ble_eq_true rfl) ?_
  intro px9 e sx9 m args below meth c C hr hlk
  show Z px9 l e (zrm 5) sx9 m args below meth c Γ 3 0 0 (MQ below (zQc Γ (zpi (fun x G' => zsm [1002, 1050] G G' ∧ (x = (if ((0 ≤ p ∧ p < A 4 1) ∧ (0 ≤ s ∧ s < A 4 0)) then wFine A W p s else -1) ∧ zsj [2079, 2080] G G')))) args sx9 0 0 (zA Γ)) 0 [some (zr 10 w), some (zi p), some (zi s)] [] G
  refine zs_loc 1 rfl (fun ha1 hb1 => ?_)
  refine zs_loc 2 rfl (fun ha2 hb2 => ?_)
  have hT0 := hT.1
  refine zs_aload_n (pc := 0) C dX9_fine_0 rfl ?_
  refine zs_iconst (pc := 1) C dX9_fine_1 (by decide) ?_
  refine zs_puti (r := 1002) (pc := 2) C dX9_fine_2 w_X9_178 f_10_2 rfl (r_1002 0) (by omega) ?_
  refine zs_aload_n (pc := 5) C dX9_fine_5 rfl ?_
  refine zs_iload_n (pc := 6) C dX9_fine_6 rfl ?_
  refine zVip1 (pc := 7) C dX9_fine_7 v_X9_398 (c_X9_isPersonW (A := A) hX (by repeat (first | assumption | refine kR_sm (by assumption) (by decide) ?_ | refine kR_I (by decide) ?_ | refine kR_J ?_))) (by decide) (by decide) ⟨Nat.zero_le _, Nat.zero_le _⟩ (Nat.le_of_ble_eq_true rfl) (fun x7 l7 u7 hp7 => ?_)
  have hq7 := hp7
  try simp only [zuI_1, zuI_2, zuJ_1, zuJ_2, zuJ_3, zuP_1, zuP_2, zuP_3, zuC_1, zuC_2, reduceIte, Nat.reduceEqDiff, false_and, and_false, true_and, and_true, and_self, or_true, true_or, or_false, false_or] at hq7
  refine zs_if_eq (tgt := 31) (pc := 10) C dX9_fine_10 (by decide) (fun h10 => ?_) (fun h10 => ?_)
  · skip
    refine zs_iconst (pc := 31) C dX9_fine_31 (by decide) ?_
    exact zs_iret (pc := 32) C hr hlk dX9_fine_32 (by first | exact ⟨by repeat (first | exact zsm_rf | assumption | refine zsm_C (by decide) ?_ | refine zsm_I (by decide) ?_ | refine zsm_J ?_ | refine zsm_c (by assumption) (by decide) ?_), ⟨(by rw [if_pos ⟨hq7.2.mp (by omega), hq15.2.mp (by omega)⟩]; exact hq25.1), zsj_c hq25.2.2 (by decide) (zsj_I zsj_rf)⟩⟩ | exact ⟨by repeat (first | exact zsm_rf | assumption | refine zsm_C (by decide) ?_ | refine zsm_I (by decide) ?_ | refine zsm_J ?_ | refine zsm_c (by assumption) (by decide) ?_), ⟨(by rw [if_neg (fun z => by have q1 := hq7.2.mpr z.1; first | omega | (have q2 := hq15.2.mpr z.2; omega))]), zsj_rf⟩⟩)
  · skip
    refine zs_aload_n (pc := 13) C dX9_fine_13 rfl ?_
    refine zs_iload_n (pc := 14) C dX9_fine_14 rfl ?_
    refine zVip1 (pc := 15) C dX9_fine_15 v_X9_407 (c_X9_isSinW (A := A) hX (by repeat (first | assumption | refine kR_sm (by assumption) (by decide) ?_ | refine kR_I (by decide) ?_ | refine kR_J ?_))) (by decide) (by decide) ⟨Nat.zero_le _, Nat.zero_le _⟩ (Nat.le_of_ble_eq_true rfl) (fun x15 l15 u15 hp15 => ?_)
    have hq15 := hp15
    try simp only [zuI_1, zuI_2, zuJ_1, zuJ_2, zuJ_3, zuP_1, zuP_2, zuP_3, zuC_1, zuC_2, reduceIte, Nat.reduceEqDiff, false_and, and_false, true_and, and_true, and_self, or_true, true_or, or_false, false_or] at hq15
    refine zs_if_eq (tgt := 31) (pc := 18) C dX9_fine_18 (by decide) (fun h18 => ?_) (fun h18 => ?_)
    · skip
      refine zs_iconst (pc := 31) C dX9_fine_31 (by decide) ?_
      exact zs_iret (pc := 32) C hr hlk dX9_fine_32 (by first | exact ⟨by repeat (first | exact zsm_rf | assumption | refine zsm_C (by decide) ?_ | refine zsm_I (by decide) ?_ | refine zsm_J ?_ | refine zsm_c (by assumption) (by decide) ?_), ⟨(by rw [if_pos ⟨hq7.2.mp (by omega), hq15.2.mp (by omega)⟩]; exact hq25.1), zsj_c hq25.2.2 (by decide) (zsj_I zsj_rf)⟩⟩ | exact ⟨by repeat (first | exact zsm_rf | assumption | refine zsm_C (by decide) ?_ | refine zsm_I (by decide) ?_ | refine zsm_J ?_ | refine zsm_c (by assumption) (by decide) ?_), ⟨(by rw [if_neg (fun z => by have q1 := hq7.2.mpr z.1; first | omega | (have q2 := hq15.2.mpr z.2; omega))]), zsj_rf⟩⟩)
    · skip
      refine zs_aload_n (pc := 21) C dX9_fine_21 rfl ?_
      refine zs_iconst (pc := 22) C dX9_fine_22 (by decide) ?_
      refine zs_iload_n (pc := 23) C dX9_fine_23 rfl ?_
      refine zs_iload_n (pc := 24) C dX9_fine_24 rfl ?_
      refine zVi3 (pc := 25) C dX9_fine_25 v_X9_427 (c_X9_fineOfW hX (Or.inl rfl) (by omega) (by omega) (by repeat (first | assumption | refine rW_sm (by assumption) (by decide) ?_ | refine rW_I (by decide) ?_ | refine rW_J ?_)) (by repeat (first | assumption | refine kR_sm (by assumption) (by decide) ?_ | refine kR_I (by decide) ?_ | refine kR_J ?_)) hW hT (by omega) (by omega)) (by decide) (by decide) ⟨Nat.zero_le _, Nat.zero_le _⟩ (Nat.le_of_ble_eq_true rfl) (fun x25 G25 l25 u25 hp25 => ?_)
      obtain ⟨hz25, hq25⟩ := hp25
      try simp only [zuI_1, zuI_2, zuJ_1, zuJ_2, zuJ_3, zuP_1, zuP_2, zuP_3, zuC_1, zuC_2, reduceIte, Nat.reduceEqDiff, false_and, and_false, true_and, and_true, and_self, or_true, true_or, or_false, false_or] at hq25
      refine zs_goto (tgt := 32) (pc := 28) C dX9_fine_28 (by decide) ?_
      exact zs_iret (pc := 32) C hr hlk dX9_fine_32 (by first | exact ⟨by repeat (first | exact zsm_rf | assumption | refine zsm_C (by decide) ?_ | refine zsm_I (by decide) ?_ | refine zsm_J ?_ | refine zsm_c (by assumption) (by decide) ?_), ⟨(by rw [if_pos ⟨hq7.2.mp (by omega), hq15.2.mp (by omega)⟩]; exact hq25.1), zsj_c hq25.2.2 (by decide) (zsj_I zsj_rf)⟩⟩ | exact ⟨by repeat (first | exact zsm_rf | assumption | refine zsm_C (by decide) ?_ | refine zsm_I (by decide) ?_ | refine zsm_J ?_ | refine zsm_c (by assumption) (by decide) ?_), ⟨(by rw [if_neg (fun z => by have q1 := hq7.2.mpr z.1; first | omega | (have q2 := hq15.2.mpr z.2; omega))]), zsj_rf⟩⟩)

set_option maxHeartbeats 4000000 in
set_option maxRecDepth 100000 in
theorem c_X9_lawW {l : Launch} {Γ : zΓ} {G : zH} {w : Nat} {k p s : Int} {A W : aS}  (hX : zXs Γ) (hR : rW Γ w 0 W G) (hK : kR Γ w A G) (hW : WI A W) (hT : TA A)  : zMet l Γ yX9_law cX9_law 6 (some .long) 3 [zr 10 w, zi k, zi p, zi s] G (zpj (fun x G' => zsm [1002, 1050] G G' ∧ (x = (if (0 ≤ k ∧ k ≤ 3 ∧ (0 ≤ p ∧ p < A 4 1) ∧ (if k = 3 then p < s ∧ 0 ≤ s ∧ s < A 4 1 else (0 ≤ s ∧ s < A 4 0) ∧ (k = 2 → 0 < wL W p s))) ∧ A 16 k.toNat < A 17 k.toNat then (if k = 3 then wPair A W p s else wLaw A W k p s) else -9223372036854775808) ∧ zsj [2079, 2080] G G'))) := by
  refine zMet_of RX9 hX (by decide) rfl (Nat.le_of_ble_eq_true rfl) ?_
  intro px9 e sx9 m args below meth c C hr hlk
  show Z px9 l e (zrm 3) sx9 m args below meth c Γ 6 0 0 (MQ below (zQc Γ (zpj (fun x G' => zsm [1002, 1050] G G' ∧ (x = (if (0 ≤ k ∧ k ≤ 3 ∧ (0 ≤ p ∧ p < A 4 1) ∧ (if k = 3 then p < s ∧ 0 ≤ s ∧ s < A 4 1 else (0 ≤ s ∧ s < A 4 0) ∧ (k = 2 → 0 < wL W p s))) ∧ A 16 k.toNat < A 17 k.toNat then (if k = 3 then wPair A W p s else wLaw A W k p s) else -9223372036854775808) ∧ zsj [2079, 2080] G G')))) args sx9 0 0 (zA Γ)) 0 [some (zr 10 w), some (zi k), some (zi p), some (zi s), none, none] [] G
  refine zs_loc 1 rfl (fun ha1 hb1 => ?_)
  refine zs_loc 2 rfl (fun ha2 hb2 => ?_)
  refine zs_loc 3 rfl (fun ha3 hb3 => ?_)
  have hT0 := hT.1
  refine zs_aload_n (pc := 0) C dX9_law_0 rfl ?_
  refine zs_iconst (pc := 1) C dX9_law_1 (by decide) ?_
  refine zs_puti (r := 1002) (pc := 2) C dX9_law_2 w_X9_178 f_10_2 rfl (r_1002 0) (by omega) ?_
  refine zs_iload_n (pc := 5) C dX9_law_5 rfl ?_
  refine zs_iconst (pc := 6) C dX9_law_6 (by decide) ?_
  refine zs_iconst (pc := 7) C dX9_law_7 (by decide) ?_
  refine zSip3 (pc := 8) C dX9_law_8 s_X9_223 (c_X9_isIn hX ) (by decide) ⟨Nat.zero_le _, Nat.zero_le _⟩ (Nat.le_of_ble_eq_true rfl) (fun x8 l8 u8 hp8 => ?_)
  have hq8 := hp8
  try simp only [zuI_1, zuI_2, zuJ_1, zuJ_2, zuJ_3, zuP_1, zuP_2, zuP_3, zuC_1, zuC_2, reduceIte, Nat.reduceEqDiff, false_and, and_false, true_and, and_true, and_self, or_true, true_or, or_false, false_or] at hq8
  refine zs_if_eq (tgt := 31) (pc := 11) C dX9_law_11 (by decide) (fun h11 => ?_) (fun h11 => ?_)
  · skip
    have hno : ¬ ((0 ≤ k ∧ k ≤ 3 ∧ (0 ≤ p ∧ p < A 4 1) ∧ (if k = 3 then p < s ∧ 0 ≤ s ∧ s < A 4 1 else (0 ≤ s ∧ s < A 4 0) ∧ (k = 2 → 0 < wL W p s))) ∧ A 16 k.toNat < A 17 k.toNat) := fun z => by obtain ⟨⟨z1, z2, z3, -⟩, z4⟩ := z; first | omega | (have q1 := (hkl.1 z4).1; omega) | (have q1 := hq25.2.mpr z3; omega)
    refine zs_ldc2 (n := -9223372036854775808) (pc := 31) C dX9_law_31 q_X9_433 (by decide) (by decide) ?_
    exact zs_lret (pc := 34) C hr hlk dX9_law_34 ⟨by repeat (first | exact zsm_rf | assumption | refine zsm_C (by decide) ?_ | refine zsm_I (by decide) ?_ | refine zsm_J ?_ | refine zsm_c (by assumption) (by decide) ?_), ⟨(by rw [if_neg hno]), zsj_rf⟩⟩
  · skip
    refine zs_aload_n (pc := 14) C dX9_law_14 rfl ?_
    refine zs_getf (pc := 15) C dX9_law_15 w_X9_57 f_10_34 (by decide) ?_
    refine zs_iload_n (pc := 18) C dX9_law_18 rfl ?_
    refine zs_zald (r := 2071) (pc := 19) C dX9_law_19 a_71 (by decide) (by omega) rfl (r_2071 _) (fun v19 e19 l19 u19 => ?_)
    try simp only [zuI_1, zuI_2, zuJ_1, zuJ_2, zuJ_3, zuP_1, zuP_2, zuP_3, zuC_1, zuC_2, reduceIte, Nat.reduceEqDiff, false_and, and_false, true_and, and_true, and_self, or_true, true_or, or_false, false_or] at e19
    have hkl := kR_L hK (k := k) (by omega)
    have y19 : v19 = G.1 2071 (Γ.2.1 w 34) k.toNat := e19
    refine zs_if_eq (tgt := 31) (pc := 20) C dX9_law_20 (by decide) (fun h20 => ?_) (fun h20 => ?_)
    · skip
      have hno : ¬ ((0 ≤ k ∧ k ≤ 3 ∧ (0 ≤ p ∧ p < A 4 1) ∧ (if k = 3 then p < s ∧ 0 ≤ s ∧ s < A 4 1 else (0 ≤ s ∧ s < A 4 0) ∧ (k = 2 → 0 < wL W p s))) ∧ A 16 k.toNat < A 17 k.toNat) := fun z => by obtain ⟨⟨z1, z2, z3, -⟩, z4⟩ := z; first | omega | (have q1 := (hkl.1 z4).1; omega) | (have q1 := hq25.2.mpr z3; omega)
      refine zs_ldc2 (n := -9223372036854775808) (pc := 31) C dX9_law_31 q_X9_433 (by decide) (by decide) ?_
      exact zs_lret (pc := 34) C hr hlk dX9_law_34 ⟨by repeat (first | exact zsm_rf | assumption | refine zsm_C (by decide) ?_ | refine zsm_I (by decide) ?_ | refine zsm_J ?_ | refine zsm_c (by assumption) (by decide) ?_), ⟨(by rw [if_neg hno]), zsj_rf⟩⟩
    · skip
      refine zs_aload_n (pc := 23) C dX9_law_23 rfl ?_
      refine zs_iload_n (pc := 24) C dX9_law_24 rfl ?_
      refine zVip1 (pc := 25) C dX9_law_25 v_X9_398 (c_X9_isPersonW (A := A) hX (by repeat (first | assumption | refine kR_sm (by assumption) (by decide) ?_ | refine kR_I (by decide) ?_ | refine kR_J ?_))) (by decide) (by decide) ⟨Nat.zero_le _, Nat.zero_le _⟩ (Nat.le_of_ble_eq_true rfl) (fun x25 l25 u25 hp25 => ?_)
      have hq25 := hp25
      try simp only [zuI_1, zuI_2, zuJ_1, zuJ_2, zuJ_3, zuP_1, zuP_2, zuP_3, zuC_1, zuC_2, reduceIte, Nat.reduceEqDiff, false_and, and_false, true_and, and_true, and_self, or_true, true_or, or_false, false_or] at hq25
      refine zs_if_ne (tgt := 35) (pc := 28) C dX9_law_28 (by decide) (fun h28 => ?_) (fun h28 => ?_)
      · skip
        have htl : A 16 k.toNat < A 17 k.toNat := Decidable.byContradiction (fun z => by have := hkl.2 z; omega)
        have hpp := hq25.2.mp (by omega)
        refine zs_iload_n (pc := 35) C dX9_law_35 rfl ?_
        refine zs_iconst (pc := 36) C dX9_law_36 (by decide) ?_
        refine zs_icmp_ne (tgt := 66) (pc := 37) C dX9_law_37 (by decide) (fun h37 => ?_) (fun h37 => ?_)
        · skip
          refine zs_aload_n (pc := 66) C dX9_law_66 rfl ?_
          refine zs_iload_n (pc := 67) C dX9_law_67 rfl ?_
          refine zVip1 (pc := 68) C dX9_law_68 v_X9_407 (c_X9_isSinW (A := A) hX (by repeat (first | assumption | refine kR_sm (by assumption) (by decide) ?_ | refine kR_I (by decide) ?_ | refine kR_J ?_))) (by decide) (by decide) ⟨Nat.zero_le _, Nat.zero_le _⟩ (Nat.le_of_ble_eq_true rfl) (fun x68 l68 u68 hp68 => ?_)
          have hq68 := hp68
          try simp only [zuI_1, zuI_2, zuJ_1, zuJ_2, zuJ_3, zuP_1, zuP_2, zuP_3, zuC_1, zuC_2, reduceIte, Nat.reduceEqDiff, false_and, and_false, true_and, and_true, and_self, or_true, true_or, or_false, false_or] at hq68
          refine zs_if_eq (tgt := 89) (pc := 71) C dX9_law_71 (by decide) (fun h71 => ?_) (fun h71 => ?_)
          · skip
            have hno : ¬ ((0 ≤ k ∧ k ≤ 3 ∧ (0 ≤ p ∧ p < A 4 1) ∧ (if k = 3 then p < s ∧ 0 ≤ s ∧ s < A 4 1 else (0 ≤ s ∧ s < A 4 0) ∧ (k = 2 → 0 < wL W p s))) ∧ A 16 k.toNat < A 17 k.toNat) := fun z => by obtain ⟨⟨z1, z2, z3, z5⟩, z4⟩ := z; rw [if_neg (by omega)] at z5; first | omega | (have q1 := hq68.2.mpr z5.1; omega) | (have q2 := z5.2 (by omega); omega)
            refine zs_ldc2 (n := -9223372036854775808) (pc := 89) C dX9_law_89 q_X9_433 (by decide) (by decide) ?_
            exact zs_lret (pc := 92) C hr hlk dX9_law_92 ⟨by repeat (first | exact zsm_rf | assumption | refine zsm_C (by decide) ?_ | refine zsm_I (by decide) ?_ | refine zsm_J ?_ | refine zsm_c (by assumption) (by decide) ?_), ⟨(by rw [if_neg hno]), zsj_rf⟩⟩
          · skip
            refine zs_iload_n (pc := 74) C dX9_law_74 rfl ?_
            refine zs_iconst (pc := 75) C dX9_law_75 (by decide) ?_
            refine zs_icmp_ne (tgt := 93) (pc := 76) C dX9_law_76 (by decide) (fun h76 => ?_) (fun h76 => ?_)
            · skip
              have hss := hq68.2.mp (by omega)
              have hok : (0 ≤ k ∧ k ≤ 3 ∧ (0 ≤ p ∧ p < A 4 1) ∧ (if k = 3 then p < s ∧ 0 ≤ s ∧ s < A 4 1 else (0 ≤ s ∧ s < A 4 0) ∧ (k = 2 → 0 < wL W p s))) := ⟨by omega, by omega, hpp, by rw [if_neg (by omega)]; exact ⟨hss, fun z => by first | omega | (have hl9 := WI_L hW (p := p) (s := s) (by omega) (by omega); have hw9 : wL W p s = W 12 (p * 4 + s).toNat := rfl; omega)⟩⟩
              refine zs_aload_n (pc := 93) C dX9_law_93 rfl ?_
              refine zs_iconst (pc := 94) C dX9_law_94 (by decide) ?_
              refine zs_iload_n (pc := 95) C dX9_law_95 rfl ?_
              refine zs_iload_n (pc := 96) C dX9_law_96 rfl ?_
              refine zVv3 (pc := 97) C dX9_law_97 v_X9_421 (c_X9_layOfW hX (Or.inl rfl) (by omega) (by omega) (by repeat (first | assumption | refine rW_sm (by assumption) (by decide) ?_ | refine rW_I (by decide) ?_ | refine rW_J ?_)) (by repeat (first | assumption | refine kR_sm (by assumption) (by decide) ?_ | refine kR_I (by decide) ?_ | refine kR_J ?_)) hW hT (by omega) (by omega)) (by decide) (by decide) ⟨Nat.zero_le _, Nat.zero_le _⟩ (Nat.le_of_ble_eq_true rfl) (fun G97 hp97 => ?_)
              obtain ⟨hz97, hq97⟩ := hp97
              try simp only [zuI_1, zuI_2, zuJ_1, zuJ_2, zuJ_3, zuP_1, zuP_2, zuP_3, zuC_1, zuC_2, reduceIte, Nat.reduceEqDiff, false_and, and_false, true_and, and_true, and_self, or_true, true_or, or_false, false_or] at hq97
              have hK9 : kR Γ w A G97 := (by repeat (first | assumption | refine kR_sm (by assumption) (by decide) ?_ | refine kR_I (by decide) ?_ | refine kR_J ?_))
              have hnm9 := hq97.1
              have hj9 := hq97.2
              have hbn9 := wNm_in hT hW (p := p) (s := s) (by omega) (by omega) ⟨by omega, by omega⟩
              have hk3 : k ≠ 3 := by omega
              refine zs_aload_n (pc := 100) C dX9_law_100 rfl ?_
              refine zs_iload_n (pc := 101) C dX9_law_101 rfl ?_
              refine zVj1 (pc := 102) C dX9_law_102 v_X9_418 (c_X9_lawOfW hX hK9 hT.2.2.2.2.2.2 (by omega) htl hnm9 hbn9) (by decide) (by decide) ⟨Nat.zero_le _, Nat.zero_le _⟩ (Nat.le_of_ble_eq_true rfl) (fun x102 G102 l102 u102 hp102 => ?_)
              obtain ⟨hz102, hq102⟩ := hp102
              obtain ⟨f102, y102, j102⟩ := hq102
              refine zs_lstore (pc := 105) C dX9_law_105 (by decide) ?_
              dsimp only [zset, zclr, znone]
              refine zs_aload_n (pc := 107) C dX9_law_107 rfl ?_
              refine zs_getz (r := 1050) (pc := 108) C dX9_law_108 w_X9_357 f_10_50 rfl (r_1050 0) (fun v108 e108 l108 u108 => ?_)
              have y108 : v108 = _ := e108.trans f102
              refine zs_if_eq (tgt := 120) (pc := 111) C dX9_law_111 (by decide) (fun h111 => ?_) (fun h111 => ?_)
              · skip
                refine zs_lload (pc := 120) C dX9_law_120 rfl ?_
                exact zs_lret (pc := 122) C hr hlk dX9_law_122 (by
                    refine ⟨by repeat (first | exact zsm_rf | assumption | refine zsm_C (by decide) ?_ | refine zsm_I (by decide) ?_ | refine zsm_J ?_ | refine zsm_c (by assumption) (by decide) ?_), ⟨?_, zsj_c j102 (by decide) (zsj_c hj9 (by decide) (zsj_I zsj_rf))⟩⟩
                    rw [if_pos ⟨hok, htl⟩]
                    first
                    | (rw [show (if k = 3 then wPair A W p s else wLaw A W k p s) = lV (A 18) (A 27) (A 28) (wNp A W p s) (A 16 k.toNat) (A 17 k.toNat) from by rw [if_pos hk3, hk3]; rfl]; split at y102 <;> split at y108 <;> omega)
                    | (rw [show (if k = 3 then wPair A W p s else wLaw A W k p s) = lV (A 18) (A 27) (A 28) (wNm A W p s) (A 16 k.toNat) (A 17 k.toNat) from by rw [if_neg hk3]; rfl]; split at y102 <;> split at y108 <;> omega))
              · skip
                refine zs_ldc2 (n := -9223372036854775808) (pc := 114) C dX9_law_114 q_X9_433 (by decide) (by decide) ?_
                refine zs_goto (tgt := 122) (pc := 117) C dX9_law_117 (by decide) ?_
                exact zs_lret (pc := 122) C hr hlk dX9_law_122 (by
                    refine ⟨by repeat (first | exact zsm_rf | assumption | refine zsm_C (by decide) ?_ | refine zsm_I (by decide) ?_ | refine zsm_J ?_ | refine zsm_c (by assumption) (by decide) ?_), ⟨?_, zsj_c j102 (by decide) (zsj_c hj9 (by decide) (zsj_I zsj_rf))⟩⟩
                    rw [if_pos ⟨hok, htl⟩]
                    first
                    | (rw [show (if k = 3 then wPair A W p s else wLaw A W k p s) = lV (A 18) (A 27) (A 28) (wNp A W p s) (A 16 k.toNat) (A 17 k.toNat) from by rw [if_pos hk3, hk3]; rfl]; split at y102 <;> split at y108 <;> omega)
                    | (rw [show (if k = 3 then wPair A W p s else wLaw A W k p s) = lV (A 18) (A 27) (A 28) (wNm A W p s) (A 16 k.toNat) (A 17 k.toNat) from by rw [if_neg hk3]; rfl]; split at y102 <;> split at y108 <;> omega))
            · skip
              refine zs_aload_n (pc := 79) C dX9_law_79 rfl ?_
              refine zs_iconst (pc := 80) C dX9_law_80 (by decide) ?_
              refine zs_iload_n (pc := 81) C dX9_law_81 rfl ?_
              refine zs_iload_n (pc := 82) C dX9_law_82 rfl ?_
              refine zVip3 (pc := 83) C dX9_law_83 v_X9_394 (c_X9_leftOfW hX (Or.inl rfl) (by omega) (by omega) (rL_I (by decide) hR.1) (WI_WL hW)) (by decide) (by decide) ⟨Nat.zero_le _, Nat.zero_le _⟩ (Nat.le_of_ble_eq_true rfl) (fun x83 l83 u83 hp83 => ?_)
              have hq83 := hp83
              try simp only [zuI_1, zuI_2, zuJ_1, zuJ_2, zuJ_3, zuP_1, zuP_2, zuP_3, zuC_1, zuC_2, reduceIte, Nat.reduceEqDiff, false_and, and_false, true_and, and_true, and_self, or_true, true_or, or_false, false_or] at hq83
              refine zs_if_ne (tgt := 93) (pc := 86) C dX9_law_86 (by decide) (fun h86 => ?_) (fun h86 => ?_)
              · skip
                have hss := hq68.2.mp (by omega)
                have hok : (0 ≤ k ∧ k ≤ 3 ∧ (0 ≤ p ∧ p < A 4 1) ∧ (if k = 3 then p < s ∧ 0 ≤ s ∧ s < A 4 1 else (0 ≤ s ∧ s < A 4 0) ∧ (k = 2 → 0 < wL W p s))) := ⟨by omega, by omega, hpp, by rw [if_neg (by omega)]; exact ⟨hss, fun z => by first | omega | (have hl9 := WI_L hW (p := p) (s := s) (by omega) (by omega); have hw9 : wL W p s = W 12 (p * 4 + s).toNat := rfl; omega)⟩⟩
                refine zs_aload_n (pc := 93) C dX9_law_93 rfl ?_
                refine zs_iconst (pc := 94) C dX9_law_94 (by decide) ?_
                refine zs_iload_n (pc := 95) C dX9_law_95 rfl ?_
                refine zs_iload_n (pc := 96) C dX9_law_96 rfl ?_
                refine zVv3 (pc := 97) C dX9_law_97 v_X9_421 (c_X9_layOfW hX (Or.inl rfl) (by omega) (by omega) (by repeat (first | assumption | refine rW_sm (by assumption) (by decide) ?_ | refine rW_I (by decide) ?_ | refine rW_J ?_)) (by repeat (first | assumption | refine kR_sm (by assumption) (by decide) ?_ | refine kR_I (by decide) ?_ | refine kR_J ?_)) hW hT (by omega) (by omega)) (by decide) (by decide) ⟨Nat.zero_le _, Nat.zero_le _⟩ (Nat.le_of_ble_eq_true rfl) (fun G97 hp97 => ?_)
                obtain ⟨hz97, hq97⟩ := hp97
                try simp only [zuI_1, zuI_2, zuJ_1, zuJ_2, zuJ_3, zuP_1, zuP_2, zuP_3, zuC_1, zuC_2, reduceIte, Nat.reduceEqDiff, false_and, and_false, true_and, and_true, and_self, or_true, true_or, or_false, false_or] at hq97
                have hK9 : kR Γ w A G97 := (by repeat (first | assumption | refine kR_sm (by assumption) (by decide) ?_ | refine kR_I (by decide) ?_ | refine kR_J ?_))
                have hnm9 := hq97.1
                have hj9 := hq97.2
                have hbn9 := wNm_in hT hW (p := p) (s := s) (by omega) (by omega) ⟨by omega, by omega⟩
                have hk3 : k ≠ 3 := by omega
                refine zs_aload_n (pc := 100) C dX9_law_100 rfl ?_
                refine zs_iload_n (pc := 101) C dX9_law_101 rfl ?_
                refine zVj1 (pc := 102) C dX9_law_102 v_X9_418 (c_X9_lawOfW hX hK9 hT.2.2.2.2.2.2 (by omega) htl hnm9 hbn9) (by decide) (by decide) ⟨Nat.zero_le _, Nat.zero_le _⟩ (Nat.le_of_ble_eq_true rfl) (fun x102 G102 l102 u102 hp102 => ?_)
                obtain ⟨hz102, hq102⟩ := hp102
                obtain ⟨f102, y102, j102⟩ := hq102
                refine zs_lstore (pc := 105) C dX9_law_105 (by decide) ?_
                dsimp only [zset, zclr, znone]
                refine zs_aload_n (pc := 107) C dX9_law_107 rfl ?_
                refine zs_getz (r := 1050) (pc := 108) C dX9_law_108 w_X9_357 f_10_50 rfl (r_1050 0) (fun v108 e108 l108 u108 => ?_)
                have y108 : v108 = _ := e108.trans f102
                refine zs_if_eq (tgt := 120) (pc := 111) C dX9_law_111 (by decide) (fun h111 => ?_) (fun h111 => ?_)
                · skip
                  refine zs_lload (pc := 120) C dX9_law_120 rfl ?_
                  exact zs_lret (pc := 122) C hr hlk dX9_law_122 (by
                      refine ⟨by repeat (first | exact zsm_rf | assumption | refine zsm_C (by decide) ?_ | refine zsm_I (by decide) ?_ | refine zsm_J ?_ | refine zsm_c (by assumption) (by decide) ?_), ⟨?_, zsj_c j102 (by decide) (zsj_c hj9 (by decide) (zsj_I zsj_rf))⟩⟩
                      rw [if_pos ⟨hok, htl⟩]
                      first
                      | (rw [show (if k = 3 then wPair A W p s else wLaw A W k p s) = lV (A 18) (A 27) (A 28) (wNp A W p s) (A 16 k.toNat) (A 17 k.toNat) from by rw [if_pos hk3, hk3]; rfl]; split at y102 <;> split at y108 <;> omega)
                      | (rw [show (if k = 3 then wPair A W p s else wLaw A W k p s) = lV (A 18) (A 27) (A 28) (wNm A W p s) (A 16 k.toNat) (A 17 k.toNat) from by rw [if_neg hk3]; rfl]; split at y102 <;> split at y108 <;> omega))
                · skip
                  refine zs_ldc2 (n := -9223372036854775808) (pc := 114) C dX9_law_114 q_X9_433 (by decide) (by decide) ?_
                  refine zs_goto (tgt := 122) (pc := 117) C dX9_law_117 (by decide) ?_
                  exact zs_lret (pc := 122) C hr hlk dX9_law_122 (by
                      refine ⟨by repeat (first | exact zsm_rf | assumption | refine zsm_C (by decide) ?_ | refine zsm_I (by decide) ?_ | refine zsm_J ?_ | refine zsm_c (by assumption) (by decide) ?_), ⟨?_, zsj_c j102 (by decide) (zsj_c hj9 (by decide) (zsj_I zsj_rf))⟩⟩
                      rw [if_pos ⟨hok, htl⟩]
                      first
                      | (rw [show (if k = 3 then wPair A W p s else wLaw A W k p s) = lV (A 18) (A 27) (A 28) (wNp A W p s) (A 16 k.toNat) (A 17 k.toNat) from by rw [if_pos hk3, hk3]; rfl]; split at y102 <;> split at y108 <;> omega)
                      | (rw [show (if k = 3 then wPair A W p s else wLaw A W k p s) = lV (A 18) (A 27) (A 28) (wNm A W p s) (A 16 k.toNat) (A 17 k.toNat) from by rw [if_neg hk3]; rfl]; split at y102 <;> split at y108 <;> omega))
              · skip
                have hno : ¬ ((0 ≤ k ∧ k ≤ 3 ∧ (0 ≤ p ∧ p < A 4 1) ∧ (if k = 3 then p < s ∧ 0 ≤ s ∧ s < A 4 1 else (0 ≤ s ∧ s < A 4 0) ∧ (k = 2 → 0 < wL W p s))) ∧ A 16 k.toNat < A 17 k.toNat) := fun z => by obtain ⟨⟨z1, z2, z3, z5⟩, z4⟩ := z; rw [if_neg (by omega)] at z5; first | omega | (have q1 := hq68.2.mpr z5.1; omega) | (have q2 := z5.2 (by omega); omega)
                refine zs_ldc2 (n := -9223372036854775808) (pc := 89) C dX9_law_89 q_X9_433 (by decide) (by decide) ?_
                exact zs_lret (pc := 92) C hr hlk dX9_law_92 ⟨by repeat (first | exact zsm_rf | assumption | refine zsm_C (by decide) ?_ | refine zsm_I (by decide) ?_ | refine zsm_J ?_ | refine zsm_c (by assumption) (by decide) ?_), ⟨(by rw [if_neg hno]), zsj_rf⟩⟩
        · skip
          refine zs_aload_n (pc := 40) C dX9_law_40 rfl ?_
          refine zs_iload_n (pc := 41) C dX9_law_41 rfl ?_
          refine zVip1 (pc := 42) C dX9_law_42 v_X9_398 (c_X9_isPersonW (A := A) hX (by repeat (first | assumption | refine kR_sm (by assumption) (by decide) ?_ | refine kR_I (by decide) ?_ | refine kR_J ?_))) (by decide) (by decide) ⟨Nat.zero_le _, Nat.zero_le _⟩ (Nat.le_of_ble_eq_true rfl) (fun x42 l42 u42 hp42 => ?_)
          have hq42 := hp42
          try simp only [zuI_1, zuI_2, zuJ_1, zuJ_2, zuJ_3, zuP_1, zuP_2, zuP_3, zuC_1, zuC_2, reduceIte, Nat.reduceEqDiff, false_and, and_false, true_and, and_true, and_self, or_true, true_or, or_false, false_or] at hq42
          refine zs_if_eq (tgt := 53) (pc := 45) C dX9_law_45 (by decide) (fun h45 => ?_) (fun h45 => ?_)
          · skip
            have hno : ¬ ((0 ≤ k ∧ k ≤ 3 ∧ (0 ≤ p ∧ p < A 4 1) ∧ (if k = 3 then p < s ∧ 0 ≤ s ∧ s < A 4 1 else (0 ≤ s ∧ s < A 4 0) ∧ (k = 2 → 0 < wL W p s))) ∧ A 16 k.toNat < A 17 k.toNat) := fun z => by obtain ⟨⟨z1, z2, z3, z5⟩, z4⟩ := z; rw [if_pos (by omega)] at z5; first | omega | (have q1 := hq42.2.mpr ⟨z5.2.1, z5.2.2⟩; omega)
            refine zs_ldc2 (n := -9223372036854775808) (pc := 53) C dX9_law_53 q_X9_433 (by decide) (by decide) ?_
            exact zs_lret (pc := 56) C hr hlk dX9_law_56 ⟨by repeat (first | exact zsm_rf | assumption | refine zsm_C (by decide) ?_ | refine zsm_I (by decide) ?_ | refine zsm_J ?_ | refine zsm_c (by assumption) (by decide) ?_), ⟨(by rw [if_neg hno]), zsj_rf⟩⟩
          · skip
            refine zs_iload_n (pc := 48) C dX9_law_48 rfl ?_
            refine zs_iload_n (pc := 49) C dX9_law_49 rfl ?_
            refine zs_icmp_gt (tgt := 57) (pc := 50) C dX9_law_50 (by decide) (fun h50 => ?_) (fun h50 => ?_)
            · skip
              have hok : (0 ≤ k ∧ k ≤ 3 ∧ (0 ≤ p ∧ p < A 4 1) ∧ (if k = 3 then p < s ∧ 0 ≤ s ∧ s < A 4 1 else (0 ≤ s ∧ s < A 4 0) ∧ (k = 2 → 0 < wL W p s))) := ⟨by omega, by omega, hpp, by rw [if_pos (by omega)]; have q1 := hq42.2.mp (by omega); omega⟩
              have hss := hq42.2.mp (by omega)
              refine zs_aload_n (pc := 57) C dX9_law_57 rfl ?_
              refine zs_iload_n (pc := 58) C dX9_law_58 rfl ?_
              refine zs_iload_n (pc := 59) C dX9_law_59 rfl ?_
              refine zVv2 (pc := 60) C dX9_law_60 v_X9_435 (c_X9_layPairW hX (by omega) (by omega) (by repeat (first | assumption | refine rW_sm (by assumption) (by decide) ?_ | refine rW_I (by decide) ?_ | refine rW_J ?_)) (by repeat (first | assumption | refine kR_sm (by assumption) (by decide) ?_ | refine kR_I (by decide) ?_ | refine kR_J ?_)) hW hT (by omega)) (by decide) (by decide) ⟨Nat.zero_le _, Nat.zero_le _⟩ (Nat.le_of_ble_eq_true rfl) (fun G60 hp60 => ?_)
              obtain ⟨hz60, hq60⟩ := hp60
              try simp only [zuI_1, zuI_2, zuJ_1, zuJ_2, zuJ_3, zuP_1, zuP_2, zuP_3, zuC_1, zuC_2, reduceIte, Nat.reduceEqDiff, false_and, and_false, true_and, and_true, and_self, or_true, true_or, or_false, false_or] at hq60
              have hK9 : kR Γ w A G60 := (by repeat (first | assumption | refine kR_sm (by assumption) (by decide) ?_ | refine kR_I (by decide) ?_ | refine kR_J ?_))
              have hnm9 := hq60.1
              have hj9 := hq60.2
              have hbn9 := wNp_in (A := A) (W := W) hT hW (p := p) (q := s) (by omega) (by omega) (by omega)
              have hk3 : k = 3 := by omega
              refine zs_goto (tgt := 100) (pc := 63) C dX9_law_63 (by decide) ?_
              refine zs_aload_n (pc := 100) C dX9_law_100 rfl ?_
              refine zs_iload_n (pc := 101) C dX9_law_101 rfl ?_
              refine zVj1 (pc := 102) C dX9_law_102 v_X9_418 (c_X9_lawOfW hX hK9 hT.2.2.2.2.2.2 (by omega) htl hnm9 hbn9) (by decide) (by decide) ⟨Nat.zero_le _, Nat.zero_le _⟩ (Nat.le_of_ble_eq_true rfl) (fun x102 G102 l102 u102 hp102 => ?_)
              obtain ⟨hz102, hq102⟩ := hp102
              obtain ⟨f102, y102, j102⟩ := hq102
              refine zs_lstore (pc := 105) C dX9_law_105 (by decide) ?_
              dsimp only [zset, zclr, znone]
              refine zs_aload_n (pc := 107) C dX9_law_107 rfl ?_
              refine zs_getz (r := 1050) (pc := 108) C dX9_law_108 w_X9_357 f_10_50 rfl (r_1050 0) (fun v108 e108 l108 u108 => ?_)
              have y108 : v108 = _ := e108.trans f102
              refine zs_if_eq (tgt := 120) (pc := 111) C dX9_law_111 (by decide) (fun h111 => ?_) (fun h111 => ?_)
              · skip
                refine zs_lload (pc := 120) C dX9_law_120 rfl ?_
                exact zs_lret (pc := 122) C hr hlk dX9_law_122 (by
                    refine ⟨by repeat (first | exact zsm_rf | assumption | refine zsm_C (by decide) ?_ | refine zsm_I (by decide) ?_ | refine zsm_J ?_ | refine zsm_c (by assumption) (by decide) ?_), ⟨?_, zsj_c j102 (by decide) (zsj_c hj9 (by decide) (zsj_I zsj_rf))⟩⟩
                    rw [if_pos ⟨hok, htl⟩]
                    first
                    | (rw [show (if k = 3 then wPair A W p s else wLaw A W k p s) = lV (A 18) (A 27) (A 28) (wNp A W p s) (A 16 k.toNat) (A 17 k.toNat) from by rw [if_pos hk3, hk3]; rfl]; split at y102 <;> split at y108 <;> omega)
                    | (rw [show (if k = 3 then wPair A W p s else wLaw A W k p s) = lV (A 18) (A 27) (A 28) (wNm A W p s) (A 16 k.toNat) (A 17 k.toNat) from by rw [if_neg hk3]; rfl]; split at y102 <;> split at y108 <;> omega))
              · skip
                refine zs_ldc2 (n := -9223372036854775808) (pc := 114) C dX9_law_114 q_X9_433 (by decide) (by decide) ?_
                refine zs_goto (tgt := 122) (pc := 117) C dX9_law_117 (by decide) ?_
                exact zs_lret (pc := 122) C hr hlk dX9_law_122 (by
                    refine ⟨by repeat (first | exact zsm_rf | assumption | refine zsm_C (by decide) ?_ | refine zsm_I (by decide) ?_ | refine zsm_J ?_ | refine zsm_c (by assumption) (by decide) ?_), ⟨?_, zsj_c j102 (by decide) (zsj_c hj9 (by decide) (zsj_I zsj_rf))⟩⟩
                    rw [if_pos ⟨hok, htl⟩]
                    first
                    | (rw [show (if k = 3 then wPair A W p s else wLaw A W k p s) = lV (A 18) (A 27) (A 28) (wNp A W p s) (A 16 k.toNat) (A 17 k.toNat) from by rw [if_pos hk3, hk3]; rfl]; split at y102 <;> split at y108 <;> omega)
                    | (rw [show (if k = 3 then wPair A W p s else wLaw A W k p s) = lV (A 18) (A 27) (A 28) (wNm A W p s) (A 16 k.toNat) (A 17 k.toNat) from by rw [if_neg hk3]; rfl]; split at y102 <;> split at y108 <;> omega))
            · skip
              have hno : ¬ ((0 ≤ k ∧ k ≤ 3 ∧ (0 ≤ p ∧ p < A 4 1) ∧ (if k = 3 then p < s ∧ 0 ≤ s ∧ s < A 4 1 else (0 ≤ s ∧ s < A 4 0) ∧ (k = 2 → 0 < wL W p s))) ∧ A 16 k.toNat < A 17 k.toNat) := fun z => by obtain ⟨⟨z1, z2, z3, z5⟩, z4⟩ := z; rw [if_pos (by omega)] at z5; first | omega | (have q1 := hq42.2.mpr ⟨z5.2.1, z5.2.2⟩; omega)
              refine zs_ldc2 (n := -9223372036854775808) (pc := 53) C dX9_law_53 q_X9_433 (by decide) (by decide) ?_
              exact zs_lret (pc := 56) C hr hlk dX9_law_56 ⟨by repeat (first | exact zsm_rf | assumption | refine zsm_C (by decide) ?_ | refine zsm_I (by decide) ?_ | refine zsm_J ?_ | refine zsm_c (by assumption) (by decide) ?_), ⟨(by rw [if_neg hno]), zsj_rf⟩⟩
      · skip
        have hno : ¬ ((0 ≤ k ∧ k ≤ 3 ∧ (0 ≤ p ∧ p < A 4 1) ∧ (if k = 3 then p < s ∧ 0 ≤ s ∧ s < A 4 1 else (0 ≤ s ∧ s < A 4 0) ∧ (k = 2 → 0 < wL W p s))) ∧ A 16 k.toNat < A 17 k.toNat) := fun z => by obtain ⟨⟨z1, z2, z3, -⟩, z4⟩ := z; first | omega | (have q1 := (hkl.1 z4).1; omega) | (have q1 := hq25.2.mpr z3; omega)
        refine zs_ldc2 (n := -9223372036854775808) (pc := 31) C dX9_law_31 q_X9_433 (by decide) (by decide) ?_
        exact zs_lret (pc := 34) C hr hlk dX9_law_34 ⟨by repeat (first | exact zsm_rf | assumption | refine zsm_C (by decide) ?_ | refine zsm_I (by decide) ?_ | refine zsm_J ?_ | refine zsm_c (by assumption) (by decide) ?_), ⟨(by rw [if_neg hno]), zsj_rf⟩⟩

set_option maxHeartbeats 4000000 in
set_option maxRecDepth 100000 in
theorem c_X9_confessW {l : Launch} {Γ : zΓ} {G : zH} {w : Nat} {p s : Int} {n : Int} {Ws : Nat → aS} {A W : aS}  (hX : zXs Γ) (hR : rW Γ w 0 W G) (hK : kR Γ w A G) (hW : WI A W) (hT : TA A) (hS : rS Γ w W G) (hD : rD w W G) (hn : G.1 1084 w 0 = n) (hn2 : 0 ≤ n ∧ n ≤ 20) (hB : bR Γ w Ws n G) (hQ : wQ W (Ws n.toNat))  : zMet l Γ yX9_confess cX9_confess 3 (some .int) 6 [zr 10 w, zi p, zi s] G (zpi (fun x G' => zsm [2091, 2092, 2093, 2094, 2095, 2096, 2097, 2098, 2099, 2100, 2088, 2087, 2082, 2084, 2083, 2089, 1050, 2105, 1084, 1002] G G' ∧ (x = (if ((0 ≤ p ∧ p < A 4 1) ∧ (0 ≤ s ∧ s < A 4 0)) then (if wCan W then W 0 0 else -2) else -1) ∧ rW Γ w 0 (if (((0 ≤ p ∧ p < A 4 1) ∧ (0 ≤ s ∧ s < A 4 0)) ∧ wCan W) then wGrind A W p s 1 else W) G' ∧ rS Γ w (if (((0 ≤ p ∧ p < A 4 1) ∧ (0 ≤ s ∧ s < A 4 0)) ∧ wCan W) then wGrind A W p s 1 else W) G' ∧ rD w (if (((0 ≤ p ∧ p < A 4 1) ∧ (0 ≤ s ∧ s < A 4 0)) ∧ wCan W) then wGrind A W p s 1 else W) G' ∧ ((((0 ≤ p ∧ p < A 4 1) ∧ (0 ≤ s ∧ s < A 4 0)) ∧ wCan W) → rU Γ w Ws n G') ∧ (¬ ((((0 ≤ p ∧ p < A 4 1) ∧ (0 ≤ s ∧ s < A 4 0)) ∧ wCan W)) → rN Γ w Ws n G') ∧ G'.2.1 1088 w 0 = G.2.1 1088 w 0))) := by
  refine zMet_of RX9 hX (by decide) rfl (Nat.le_of_ble_eq_true rfl) ?_
  intro px9 e sx9 m args below meth c C hr hlk
  show Z px9 l e (zrm 6) sx9 m args below meth c Γ 3 0 0 (MQ below (zQc Γ (zpi (fun x G' => zsm [2091, 2092, 2093, 2094, 2095, 2096, 2097, 2098, 2099, 2100, 2088, 2087, 2082, 2084, 2083, 2089, 1050, 2105, 1084, 1002] G G' ∧ (x = (if ((0 ≤ p ∧ p < A 4 1) ∧ (0 ≤ s ∧ s < A 4 0)) then (if wCan W then W 0 0 else -2) else -1) ∧ rW Γ w 0 (if (((0 ≤ p ∧ p < A 4 1) ∧ (0 ≤ s ∧ s < A 4 0)) ∧ wCan W) then wGrind A W p s 1 else W) G' ∧ rS Γ w (if (((0 ≤ p ∧ p < A 4 1) ∧ (0 ≤ s ∧ s < A 4 0)) ∧ wCan W) then wGrind A W p s 1 else W) G' ∧ rD w (if (((0 ≤ p ∧ p < A 4 1) ∧ (0 ≤ s ∧ s < A 4 0)) ∧ wCan W) then wGrind A W p s 1 else W) G' ∧ ((((0 ≤ p ∧ p < A 4 1) ∧ (0 ≤ s ∧ s < A 4 0)) ∧ wCan W) → rU Γ w Ws n G') ∧ (¬ ((((0 ≤ p ∧ p < A 4 1) ∧ (0 ≤ s ∧ s < A 4 0)) ∧ wCan W)) → rN Γ w Ws n G') ∧ G'.2.1 1088 w 0 = G.2.1 1088 w 0)))) args sx9 0 0 (zA Γ)) 0 [some (zr 10 w), some (zi p), some (zi s)] [] G
  refine zs_loc 1 rfl (fun ha1 hb1 => ?_)
  refine zs_loc 2 rfl (fun ha2 hb2 => ?_)
  have hT0 := hT.1
  refine zs_aload_n (pc := 0) C dX9_confess_0 rfl ?_
  refine zs_iconst (pc := 1) C dX9_confess_1 (by decide) ?_
  refine zs_puti (r := 1002) (pc := 2) C dX9_confess_2 w_X9_178 f_10_2 rfl (r_1002 0) (by omega) ?_
  refine zs_aload_n (pc := 5) C dX9_confess_5 rfl ?_
  refine zs_iload_n (pc := 6) C dX9_confess_6 rfl ?_
  refine zVip1 (pc := 7) C dX9_confess_7 v_X9_398 (c_X9_isPersonW (A := A) hX (by repeat (first | assumption | refine kR_sm (by assumption) (by decide) ?_ | refine kR_I (by decide) ?_ | refine kR_J ?_))) (by decide) (by decide) ⟨Nat.zero_le _, Nat.zero_le _⟩ (Nat.le_of_ble_eq_true rfl) (fun x7 l7 u7 hp7 => ?_)
  have hq7 := hp7
  try simp only [zuI_1, zuI_2, zuJ_1, zuJ_2, zuJ_3, zuP_1, zuP_2, zuP_3, zuC_1, zuC_2, reduceIte, Nat.reduceEqDiff, false_and, and_false, true_and, and_true, and_self, or_true, true_or, or_false, false_or] at hq7
  refine zs_if_eq (tgt := 21) (pc := 10) C dX9_confess_10 (by decide) (fun h10 => ?_) (fun h10 => ?_)
  · skip
    have hnp : ¬ ((0 ≤ p ∧ p < A 4 1) ∧ (0 ≤ s ∧ s < A 4 0)) := fun z => by have q1 := hq7.2.mpr z.1; first | omega | (have q2 := hq15.2.mpr z.2; omega)
    have hno : ¬ (((0 ≤ p ∧ p < A 4 1) ∧ (0 ≤ s ∧ s < A 4 0)) ∧ wCan W) := fun z => hnp z.1
    refine zs_iconst (pc := 21) C dX9_confess_21 (by decide) ?_
    exact zs_iret (pc := 22) C hr hlk dX9_confess_22 ⟨by repeat (first | exact zsm_rf | assumption | refine zsm_C (by decide) ?_ | refine zsm_I (by decide) ?_ | refine zsm_J ?_ | refine zsm_c (by assumption) (by decide) ?_), ⟨by rw [if_neg hnp], by rw [if_neg hno]; repeat (first | assumption | refine rW_sm (by assumption) (by decide) ?_ | refine rW_I (by decide) ?_ | refine rW_J ?_), by rw [if_neg hno]; repeat (first | assumption | refine rS_sm (by assumption) (by decide) ?_ | refine rS_I (by decide) ?_ | refine rS_J ?_), by rw [if_neg hno]; exact hD, fun z => absurd z hno, fun _ => ⟨(by repeat (first | assumption | refine bR_z (by assumption) (by decide) ?_ | refine bR_I (by decide) ?_ | refine bR_J ?_)), by simp only [zuI_1, zuI_2, zuJ_1, zuJ_2, zuJ_3, zuP_1, zuP_2, zuP_3, zuC_1, zuC_2, reduceIte, Nat.reduceEqDiff, false_and, and_false, true_and, and_true, and_self, or_true, true_or, or_false, false_or]; exact hn⟩, rfl⟩⟩
  · skip
    refine zs_aload_n (pc := 13) C dX9_confess_13 rfl ?_
    refine zs_iload_n (pc := 14) C dX9_confess_14 rfl ?_
    refine zVip1 (pc := 15) C dX9_confess_15 v_X9_407 (c_X9_isSinW (A := A) hX (by repeat (first | assumption | refine kR_sm (by assumption) (by decide) ?_ | refine kR_I (by decide) ?_ | refine kR_J ?_))) (by decide) (by decide) ⟨Nat.zero_le _, Nat.zero_le _⟩ (Nat.le_of_ble_eq_true rfl) (fun x15 l15 u15 hp15 => ?_)
    have hq15 := hp15
    try simp only [zuI_1, zuI_2, zuJ_1, zuJ_2, zuJ_3, zuP_1, zuP_2, zuP_3, zuC_1, zuC_2, reduceIte, Nat.reduceEqDiff, false_and, and_false, true_and, and_true, and_self, or_true, true_or, or_false, false_or] at hq15
    refine zs_if_ne (tgt := 23) (pc := 18) C dX9_confess_18 (by decide) (fun h18 => ?_) (fun h18 => ?_)
    · skip
      have hyp : ((0 ≤ p ∧ p < A 4 1) ∧ (0 ≤ s ∧ s < A 4 0)) := ⟨hq7.2.mp (by omega), hq15.2.mp (by omega)⟩
      refine zs_aload_n (pc := 23) C dX9_confess_23 rfl ?_
      refine zs_iconst (pc := 24) C dX9_confess_24 (by decide) ?_
      refine zVip1 (pc := 25) C dX9_confess_25 v_X9_439 (c_X9_canGrindW hX (Or.inl rfl) (by repeat (first | assumption | refine rW_sm (by assumption) (by decide) ?_ | refine rW_I (by decide) ?_ | refine rW_J ?_))) (by decide) (by decide) ⟨Nat.zero_le _, Nat.zero_le _⟩ (Nat.le_of_ble_eq_true rfl) (fun x25 l25 u25 hp25 => ?_)
      have hq25 := hp25
      try simp only [zuI_1, zuI_2, zuJ_1, zuJ_2, zuJ_3, zuP_1, zuP_2, zuP_3, zuC_1, zuC_2, reduceIte, Nat.reduceEqDiff, false_and, and_false, true_and, and_true, and_self, or_true, true_or, or_false, false_or] at hq25
      refine zs_if_ne (tgt := 34) (pc := 28) C dX9_confess_28 (by decide) (fun h28 => ?_) (fun h28 => ?_)
      · skip
        have hcan : wCan W := hq25.2.mp (by omega)
        have hok : (((0 ≤ p ∧ p < A 4 1) ∧ (0 ≤ s ∧ s < A 4 0)) ∧ wCan W) := ⟨hyp, hcan⟩
        refine zs_aload_n (pc := 34) C dX9_confess_34 rfl ?_
        refine zVv0 (pc := 35) C dX9_confess_35 v_X9_442 (c_X9_rememberW (n := n) (W := W) (Ws := Ws) hX (by simp only [zuI_1, zuI_2, zuJ_1, zuJ_2, zuJ_3, zuP_1, zuP_2, zuP_3, zuC_1, zuC_2, reduceIte, Nat.reduceEqDiff, false_and, and_false, true_and, and_true, and_self, or_true, true_or, or_false, false_or]; exact hn) hn2 (by repeat (first | assumption | refine bR_z (by assumption) (by decide) ?_ | refine bR_I (by decide) ?_ | refine bR_J ?_)) hQ (by repeat (first | assumption | refine rW_sm (by assumption) (by decide) ?_ | refine rW_I (by decide) ?_ | refine rW_J ?_))) (by decide) (by decide) ⟨Nat.zero_le _, Nat.zero_le _⟩ (Nat.le_of_ble_eq_true rfl) (fun G35 hp35 => ?_)
        obtain ⟨hz35, hq35⟩ := hp35
        try simp only [zuI_1, zuI_2, zuJ_1, zuJ_2, zuJ_3, zuP_1, zuP_2, zuP_3, zuC_1, zuC_2, reduceIte, Nat.reduceEqDiff, false_and, and_false, true_and, and_true, and_self, or_true, true_or, or_false, false_or] at hq35
        refine zs_aload_n (pc := 38) C dX9_confess_38 rfl ?_
        refine zs_iconst (pc := 39) C dX9_confess_39 (by decide) ?_
        refine zs_iload_n (pc := 40) C dX9_confess_40 rfl ?_
        refine zs_iload_n (pc := 41) C dX9_confess_41 rfl ?_
        refine zVi3 (pc := 42) C dX9_confess_42 v_X9_445 (c_X9_grindsW0 (wr := 1) hX (by omega) (by omega) (by repeat (first | assumption | refine rW_sm (by assumption) (by decide) ?_ | refine rW_I (by decide) ?_ | refine rW_J ?_)) (by repeat (first | assumption | refine kR_sm (by assumption) (by decide) ?_ | refine kR_I (by decide) ?_ | refine kR_J ?_)) hW hT (by omega) (by omega) hcan (by repeat (first | assumption | refine rS_sm (by assumption) (by decide) ?_ | refine rS_I (by decide) ?_ | refine rS_J ?_)) (by decide)) (by decide) (by decide) ⟨Nat.zero_le _, Nat.zero_le _⟩ (Nat.le_of_ble_eq_true rfl) (fun x42 G42 l42 u42 hp42 => ?_)
        obtain ⟨hz42, hq42⟩ := hp42
        exact zs_iret (pc := 45) C hr hlk dX9_confess_45 (by
            obtain ⟨x429, r429, j429, s429⟩ := hq42
            exact ⟨by repeat (first | exact zsm_rf | assumption | refine zsm_C (by decide) ?_ | refine zsm_I (by decide) ?_ | refine zsm_J ?_ | refine zsm_c (by assumption) (by decide) ?_), ⟨by rw [if_pos hyp, if_pos hcan]; exact x429, by rw [if_pos hok]; exact r429, by rw [if_pos hok]; exact s429, by rw [if_pos hok]; exact rD_j j429 (by decide) (rD_j (rs := []) (fun r _ => by rw [hq35.2.2]; first | done | rfl) (by decide) hD rfl) ((wGr_ev hcan).2.2.2.2.2.2 21 0 (by omega)), fun _ => rU_z hz42 (by decide) ⟨hq35.1, hq35.2.1⟩, fun z => absurd hok z, (by rw [j429 1088 (by decide), hq35.2.2]; first | done | rfl)⟩⟩)
      · skip
        have hnc : ¬ wCan W := fun z => by have := hq25.2.mpr z; omega
        have hno : ¬ (((0 ≤ p ∧ p < A 4 1) ∧ (0 ≤ s ∧ s < A 4 0)) ∧ wCan W) := fun z => hnc z.2
        refine zs_bipush (pc := 31) C dX9_confess_31 (by decide) (by decide) ?_
        exact zs_iret (pc := 33) C hr hlk dX9_confess_33 ⟨by repeat (first | exact zsm_rf | assumption | refine zsm_C (by decide) ?_ | refine zsm_I (by decide) ?_ | refine zsm_J ?_ | refine zsm_c (by assumption) (by decide) ?_), ⟨by rw [if_pos hyp, if_neg hnc], by rw [if_neg hno]; repeat (first | assumption | refine rW_sm (by assumption) (by decide) ?_ | refine rW_I (by decide) ?_ | refine rW_J ?_), by rw [if_neg hno]; repeat (first | assumption | refine rS_sm (by assumption) (by decide) ?_ | refine rS_I (by decide) ?_ | refine rS_J ?_), by rw [if_neg hno]; exact hD, fun z => absurd z hno, fun _ => ⟨(by repeat (first | assumption | refine bR_z (by assumption) (by decide) ?_ | refine bR_I (by decide) ?_ | refine bR_J ?_)), by simp only [zuI_1, zuI_2, zuJ_1, zuJ_2, zuJ_3, zuP_1, zuP_2, zuP_3, zuC_1, zuC_2, reduceIte, Nat.reduceEqDiff, false_and, and_false, true_and, and_true, and_self, or_true, true_or, or_false, false_or]; exact hn⟩, rfl⟩⟩
    · skip
      have hnp : ¬ ((0 ≤ p ∧ p < A 4 1) ∧ (0 ≤ s ∧ s < A 4 0)) := fun z => by have q1 := hq7.2.mpr z.1; first | omega | (have q2 := hq15.2.mpr z.2; omega)
      have hno : ¬ (((0 ≤ p ∧ p < A 4 1) ∧ (0 ≤ s ∧ s < A 4 0)) ∧ wCan W) := fun z => hnp z.1
      refine zs_iconst (pc := 21) C dX9_confess_21 (by decide) ?_
      exact zs_iret (pc := 22) C hr hlk dX9_confess_22 ⟨by repeat (first | exact zsm_rf | assumption | refine zsm_C (by decide) ?_ | refine zsm_I (by decide) ?_ | refine zsm_J ?_ | refine zsm_c (by assumption) (by decide) ?_), ⟨by rw [if_neg hnp], by rw [if_neg hno]; repeat (first | assumption | refine rW_sm (by assumption) (by decide) ?_ | refine rW_I (by decide) ?_ | refine rW_J ?_), by rw [if_neg hno]; repeat (first | assumption | refine rS_sm (by assumption) (by decide) ?_ | refine rS_I (by decide) ?_ | refine rS_J ?_), by rw [if_neg hno]; exact hD, fun z => absurd z hno, fun _ => ⟨(by repeat (first | assumption | refine bR_z (by assumption) (by decide) ?_ | refine bR_I (by decide) ?_ | refine bR_J ?_)), by simp only [zuI_1, zuI_2, zuJ_1, zuJ_2, zuJ_3, zuP_1, zuP_2, zuP_3, zuC_1, zuC_2, reduceIte, Nat.reduceEqDiff, false_and, and_false, true_and, and_true, and_self, or_true, true_or, or_false, false_or]; exact hn⟩, rfl⟩⟩

set_option maxHeartbeats 4000000 in
set_option maxRecDepth 100000 in
theorem c_X9_askW {l : Launch} {Γ : zΓ} {G : zH} {w : Nat} {p : Int} {n : Int} {Ws : Nat → aS} {A W : aS}  (hX : zXs Γ) (hR : rW Γ w 0 W G) (hK : kR Γ w A G) (hW : WI A W) (hT : TA A) (hS : rS Γ w W G) (hD : rD w W G) (hn : G.1 1084 w 0 = n) (hn2 : 0 ≤ n ∧ n ≤ 20) (hB : bR Γ w Ws n G) (hQ : wQ W (Ws n.toNat))  : zMet l Γ yX9_ask cX9_ask 3 (some .int) 6 [zr 10 w, zi p] G (zpi (fun x G' => zsm [2091, 2092, 2093, 2094, 2095, 2096, 2097, 2098, 2099, 2100, 2088, 2087, 2082, 2084, 2083, 2089, 1050, 2105, 1084, 1002] G G' ∧ (x = (if (0 ≤ p ∧ p < A 4 1) then (if wCan W then (if wAskV A W p = -1 then -3 else W 0 0) else -2) else -1) ∧ rW Γ w 0 (if ((0 ≤ p ∧ p < A 4 1) ∧ wCan W ∧ wAskV A W p ≠ -1) then wGrind A (wAsk A W p) p (wAskV A W p) 1 else if (0 ≤ p ∧ p < A 4 1) ∧ wCan W then wAsk A W p else W) G' ∧ rS Γ w (if ((0 ≤ p ∧ p < A 4 1) ∧ wCan W ∧ wAskV A W p ≠ -1) then wGrind A (wAsk A W p) p (wAskV A W p) 1 else if (0 ≤ p ∧ p < A 4 1) ∧ wCan W then wAsk A W p else W) G' ∧ rD w (if ((0 ≤ p ∧ p < A 4 1) ∧ wCan W ∧ wAskV A W p ≠ -1) then wGrind A (wAsk A W p) p (wAskV A W p) 1 else if (0 ≤ p ∧ p < A 4 1) ∧ wCan W then wAsk A W p else W) G' ∧ (((0 ≤ p ∧ p < A 4 1) ∧ wCan W ∧ wAskV A W p ≠ -1) → rU Γ w Ws n G') ∧ (¬ (((0 ≤ p ∧ p < A 4 1) ∧ wCan W ∧ wAskV A W p ≠ -1)) → rN Γ w Ws n G') ∧ G'.2.1 1088 w 0 = G.2.1 1088 w 0))) := by
  refine zMet_of RX9 hX (by decide) rfl (Nat.le_of_ble_eq_true rfl) ?_
  intro px9 e s m args below meth c C hr hlk
  show Z px9 l e (zrm 6) s m args below meth c Γ 3 0 0 (MQ below (zQc Γ (zpi (fun x G' => zsm [2091, 2092, 2093, 2094, 2095, 2096, 2097, 2098, 2099, 2100, 2088, 2087, 2082, 2084, 2083, 2089, 1050, 2105, 1084, 1002] G G' ∧ (x = (if (0 ≤ p ∧ p < A 4 1) then (if wCan W then (if wAskV A W p = -1 then -3 else W 0 0) else -2) else -1) ∧ rW Γ w 0 (if ((0 ≤ p ∧ p < A 4 1) ∧ wCan W ∧ wAskV A W p ≠ -1) then wGrind A (wAsk A W p) p (wAskV A W p) 1 else if (0 ≤ p ∧ p < A 4 1) ∧ wCan W then wAsk A W p else W) G' ∧ rS Γ w (if ((0 ≤ p ∧ p < A 4 1) ∧ wCan W ∧ wAskV A W p ≠ -1) then wGrind A (wAsk A W p) p (wAskV A W p) 1 else if (0 ≤ p ∧ p < A 4 1) ∧ wCan W then wAsk A W p else W) G' ∧ rD w (if ((0 ≤ p ∧ p < A 4 1) ∧ wCan W ∧ wAskV A W p ≠ -1) then wGrind A (wAsk A W p) p (wAskV A W p) 1 else if (0 ≤ p ∧ p < A 4 1) ∧ wCan W then wAsk A W p else W) G' ∧ (((0 ≤ p ∧ p < A 4 1) ∧ wCan W ∧ wAskV A W p ≠ -1) → rU Γ w Ws n G') ∧ (¬ (((0 ≤ p ∧ p < A 4 1) ∧ wCan W ∧ wAskV A W p ≠ -1)) → rN Γ w Ws n G') ∧ G'.2.1 1088 w 0 = G.2.1 1088 w 0)))) args s 0 0 (zA Γ)) 0 [some (zr 10 w), some (zi p), none] [] G
  refine zs_loc 1 rfl (fun ha1 hb1 => ?_)
  have hT0 := hT.1
  have hwi := wAskV_in (A := A) (W := W) (p := p) (by omega)
  refine zs_aload_n (pc := 0) C dX9_ask_0 rfl ?_
  refine zs_iconst (pc := 1) C dX9_ask_1 (by decide) ?_
  refine zs_puti (r := 1002) (pc := 2) C dX9_ask_2 w_X9_178 f_10_2 rfl (r_1002 0) (by omega) ?_
  refine zs_aload_n (pc := 5) C dX9_ask_5 rfl ?_
  refine zs_iload_n (pc := 6) C dX9_ask_6 rfl ?_
  refine zVip1 (pc := 7) C dX9_ask_7 v_X9_398 (c_X9_isPersonW (A := A) hX (by repeat (first | assumption | refine kR_sm (by assumption) (by decide) ?_ | refine kR_I (by decide) ?_ | refine kR_J ?_))) (by decide) (by decide) ⟨Nat.zero_le _, Nat.zero_le _⟩ (Nat.le_of_ble_eq_true rfl) (fun x7 l7 u7 hp7 => ?_)
  have hq7 := hp7
  try simp only [zuI_1, zuI_2, zuJ_1, zuJ_2, zuJ_3, zuP_1, zuP_2, zuP_3, zuC_1, zuC_2, reduceIte, Nat.reduceEqDiff, false_and, and_false, true_and, and_true, and_self, or_true, true_or, or_false, false_or] at hq7
  refine zs_if_ne (tgt := 15) (pc := 10) C dX9_ask_10 (by decide) (fun h10 => ?_) (fun h10 => ?_)
  · skip
    have hyp : (0 ≤ p ∧ p < A 4 1) := hq7.2.mp (by omega)
    refine zs_aload_n (pc := 15) C dX9_ask_15 rfl ?_
    refine zs_iconst (pc := 16) C dX9_ask_16 (by decide) ?_
    refine zVip1 (pc := 17) C dX9_ask_17 v_X9_439 (c_X9_canGrindW hX (Or.inl rfl) (by repeat (first | assumption | refine rW_sm (by assumption) (by decide) ?_ | refine rW_I (by decide) ?_ | refine rW_J ?_))) (by decide) (by decide) ⟨Nat.zero_le _, Nat.zero_le _⟩ (Nat.le_of_ble_eq_true rfl) (fun x17 l17 u17 hp17 => ?_)
    have hq17 := hp17
    try simp only [zuI_1, zuI_2, zuJ_1, zuJ_2, zuJ_3, zuP_1, zuP_2, zuP_3, zuC_1, zuC_2, reduceIte, Nat.reduceEqDiff, false_and, and_false, true_and, and_true, and_self, or_true, true_or, or_false, false_or] at hq17
    refine zs_if_ne (tgt := 26) (pc := 20) C dX9_ask_20 (by decide) (fun h20 => ?_) (fun h20 => ?_)
    · skip
      have hcan : wCan W := hq17.2.mp (by omega)
      refine zs_aload_n (pc := 26) C dX9_ask_26 rfl ?_
      refine zs_iload_n (pc := 27) C dX9_ask_27 rfl ?_
      refine zVi1 (pc := 28) C dX9_ask_28 v_X9_462 (c_X9_askedW hX (by omega) (by repeat (first | assumption | refine rW_sm (by assumption) (by decide) ?_ | refine rW_I (by decide) ?_ | refine rW_J ?_)) (by repeat (first | assumption | refine kR_sm (by assumption) (by decide) ?_ | refine kR_I (by decide) ?_ | refine kR_J ?_)) hW hT (by omega) hD) (by decide) (by decide) ⟨Nat.zero_le _, Nat.zero_le _⟩ (Nat.le_of_ble_eq_true rfl) (fun x28 G28 l28 u28 hp28 => ?_)
      obtain ⟨hz28, hq28⟩ := hp28
      try simp only [zuI_1, zuI_2, zuJ_1, zuJ_2, zuJ_3, zuP_1, zuP_2, zuP_3, zuC_1, zuC_2, reduceIte, Nat.reduceEqDiff, false_and, and_false, true_and, and_true, and_self, or_true, true_or, or_false, false_or] at hq28
      obtain ⟨x289, b28, c28, hD28, j28⟩ := hq28
      subst x289
      refine zs_istore_n (pc := 31) C dX9_ask_31 (by decide) ?_
      dsimp only [zset, zclr, znone]
      refine zs_iload_n (pc := 32) C dX9_ask_32 rfl ?_
      refine zs_if_ge (tgt := 39) (pc := 33) C dX9_ask_33 (by decide) (fun h33 => ?_) (fun h33 => ?_)
      · skip
        have hok : ((0 ≤ p ∧ p < A 4 1) ∧ wCan W ∧ wAskV A W p ≠ -1) := ⟨hyp, hcan, by omega⟩
        refine zs_aload_n (pc := 39) C dX9_ask_39 rfl ?_
        refine zVv0 (pc := 40) C dX9_ask_40 v_X9_442 (c_X9_rememberW (n := n) (W := wAsk A W p) (Ws := Ws) hX (by rw [hz28.1 1084 (by decide)]; simp only [zuI_1, zuI_2, zuJ_1, zuJ_2, zuJ_3, zuP_1, zuP_2, zuP_3, zuC_1, zuC_2, reduceIte, Nat.reduceEqDiff, false_and, and_false, true_and, and_true, and_self, or_true, true_or, or_false, false_or]; exact hn) hn2 (by repeat (first | assumption | refine bR_z (by assumption) (by decide) ?_ | refine bR_I (by decide) ?_ | refine bR_J ?_)) (wQ_ask hQ) (rW_21 (fun f j hf => wAsk_0 hf) (by repeat (first | assumption | refine rW_sm (by assumption) (by decide) ?_ | refine rW_I (by decide) ?_ | refine rW_J ?_)))) (by decide) (by decide) ⟨Nat.zero_le _, Nat.zero_le _⟩ (Nat.le_of_ble_eq_true rfl) (fun G40 hp40 => ?_)
        obtain ⟨hz40, hq40⟩ := hp40
        have hRa : rW Γ w 0 (wAsk A W p) G40 := rW_21 (fun f j hf => wAsk_0 hf) (by repeat (first | assumption | refine rW_sm (by assumption) (by decide) ?_ | refine rW_I (by decide) ?_ | refine rW_J ?_))
        have hKa : kR Γ w A G40 := (by repeat (first | assumption | refine kR_sm (by assumption) (by decide) ?_ | refine kR_I (by decide) ?_ | refine kR_J ?_))
        have hSa : rS Γ w (wAsk A W p) G40 := rS_21 (fun f j hf => wAsk_0 hf) (by repeat (first | assumption | refine rS_sm (by assumption) (by decide) ?_ | refine rS_I (by decide) ?_ | refine rS_J ?_))
        have hDa : rD w (wAsk A W p) G40 := rD_j (rs := []) (fun r _ => by rw [hq40.2.2]) (by decide) hD28 rfl
        refine zs_aload_n (pc := 43) C dX9_ask_43 rfl ?_
        refine zs_iconst (pc := 44) C dX9_ask_44 (by decide) ?_
        refine zs_iload_n (pc := 45) C dX9_ask_45 rfl ?_
        refine zs_iload_n (pc := 46) C dX9_ask_46 rfl ?_
        refine zVi3 (pc := 47) C dX9_ask_47 v_X9_445 (c_X9_grindsW0 (W := wAsk A W p) (wr := 1) hX (by omega) (by omega) hRa hKa (WI_ask hW) hT (by omega) (by omega) (wCan_ask.mpr hcan) hSa (by decide)) (by decide) (by decide) ⟨Nat.zero_le _, Nat.zero_le _⟩ (Nat.le_of_ble_eq_true rfl) (fun x47 G47 l47 u47 hp47 => ?_)
        obtain ⟨hz47, hq47⟩ := hp47
        exact zs_iret (pc := 50) C hr hlk dX9_ask_50 (by
            obtain ⟨x479, r479, j479, s479⟩ := hq47
            exact ⟨by repeat (first | exact zsm_rf | assumption | refine zsm_C (by decide) ?_ | refine zsm_I (by decide) ?_ | refine zsm_J ?_ | refine zsm_c (by assumption) (by decide) ?_), ⟨by rw [if_pos hyp, if_pos hcan, if_neg hok.2.2]; exact x479.trans (wAsk_0 (by decide)), by rw [if_pos hok]; exact r479, by rw [if_pos hok]; exact s479, by rw [if_pos hok]; exact rD_j j479 (by decide) hDa ((wGr_ev (wCan_ask.mpr hcan)).2.2.2.2.2.2 21 0 (by omega)), fun _ => rU_z hz47 (by decide) ⟨hq40.1, hq40.2.1⟩, fun z => absurd hok z, (by rw [j479 1088 (by decide), hq40.2.2, j28 1088 (by decide)]; first | done | rfl)⟩⟩)
      · skip
        have hno : ¬ ((0 ≤ p ∧ p < A 4 1) ∧ wCan W ∧ wAskV A W p ≠ -1) := fun z => z.2.2 (by omega)
        refine zs_bipush (pc := 36) C dX9_ask_36 (by decide) (by decide) ?_
        exact zs_iret (pc := 38) C hr hlk dX9_ask_38 ⟨by repeat (first | exact zsm_rf | assumption | refine zsm_C (by decide) ?_ | refine zsm_I (by decide) ?_ | refine zsm_J ?_ | refine zsm_c (by assumption) (by decide) ?_), ⟨by rw [if_pos hyp, if_pos hcan, if_pos (by omega)], by rw [if_neg hno]; rw [if_pos ⟨hyp, hcan⟩]; exact rW_21 (fun f j hf => wAsk_0 hf) (by repeat (first | assumption | refine rW_sm (by assumption) (by decide) ?_ | refine rW_I (by decide) ?_ | refine rW_J ?_)), by rw [if_neg hno]; rw [if_pos ⟨hyp, hcan⟩]; exact rS_21 (fun f j hf => wAsk_0 hf) (by repeat (first | assumption | refine rS_sm (by assumption) (by decide) ?_ | refine rS_I (by decide) ?_ | refine rS_J ?_)), by rw [if_neg hno]; rw [if_pos ⟨hyp, hcan⟩]; exact hD28, fun z => absurd z hno, fun _ => ⟨(by repeat (first | assumption | refine bR_z (by assumption) (by decide) ?_ | refine bR_I (by decide) ?_ | refine bR_J ?_)), by rw [hz28.1 1084 (by decide)]; simp only [zuI_1, zuI_2, zuJ_1, zuJ_2, zuJ_3, zuP_1, zuP_2, zuP_3, zuC_1, zuC_2, reduceIte, Nat.reduceEqDiff, false_and, and_false, true_and, and_true, and_self, or_true, true_or, or_false, false_or]; exact hn⟩, (by show G28.2.1 1088 w 0 = _; rw [j28 1088 (by decide)]; first | done | rfl)⟩⟩
    · skip
      have hnc : ¬ wCan W := fun z => by have := hq17.2.mpr z; omega
      have hno : ¬ ((0 ≤ p ∧ p < A 4 1) ∧ wCan W ∧ wAskV A W p ≠ -1) := fun z => hnc z.2.1
      have hn2a : ¬ ((0 ≤ p ∧ p < A 4 1) ∧ wCan W) := fun z => hnc z.2
      refine zs_bipush (pc := 23) C dX9_ask_23 (by decide) (by decide) ?_
      exact zs_iret (pc := 25) C hr hlk dX9_ask_25 ⟨by repeat (first | exact zsm_rf | assumption | refine zsm_C (by decide) ?_ | refine zsm_I (by decide) ?_ | refine zsm_J ?_ | refine zsm_c (by assumption) (by decide) ?_), ⟨by rw [if_pos hyp, if_neg hnc], by rw [if_neg hno]; rw [if_neg hn2a]; repeat (first | assumption | refine rW_sm (by assumption) (by decide) ?_ | refine rW_I (by decide) ?_ | refine rW_J ?_), by rw [if_neg hno]; rw [if_neg hn2a]; repeat (first | assumption | refine rS_sm (by assumption) (by decide) ?_ | refine rS_I (by decide) ?_ | refine rS_J ?_), by rw [if_neg hno]; rw [if_neg hn2a]; exact hD, fun z => absurd z hno, fun _ => ⟨(by repeat (first | assumption | refine bR_z (by assumption) (by decide) ?_ | refine bR_I (by decide) ?_ | refine bR_J ?_)), by simp only [zuI_1, zuI_2, zuJ_1, zuJ_2, zuJ_3, zuP_1, zuP_2, zuP_3, zuC_1, zuC_2, reduceIte, Nat.reduceEqDiff, false_and, and_false, true_and, and_true, and_self, or_true, true_or, or_false, false_or]; exact hn⟩, rfl⟩⟩
  · skip
    have hnp : ¬ (0 ≤ p ∧ p < A 4 1) := fun z => by have q1 := hq7.2.mpr z; omega
    have hno : ¬ ((0 ≤ p ∧ p < A 4 1) ∧ wCan W ∧ wAskV A W p ≠ -1) := fun z => hnp z.1
    have hn2a : ¬ ((0 ≤ p ∧ p < A 4 1) ∧ wCan W) := fun z => hnp z.1
    refine zs_iconst (pc := 13) C dX9_ask_13 (by decide) ?_
    exact zs_iret (pc := 14) C hr hlk dX9_ask_14 ⟨by repeat (first | exact zsm_rf | assumption | refine zsm_C (by decide) ?_ | refine zsm_I (by decide) ?_ | refine zsm_J ?_ | refine zsm_c (by assumption) (by decide) ?_), ⟨by rw [if_neg hnp], by rw [if_neg hno]; rw [if_neg hn2a]; repeat (first | assumption | refine rW_sm (by assumption) (by decide) ?_ | refine rW_I (by decide) ?_ | refine rW_J ?_), by rw [if_neg hno]; rw [if_neg hn2a]; repeat (first | assumption | refine rS_sm (by assumption) (by decide) ?_ | refine rS_I (by decide) ?_ | refine rS_J ?_), by rw [if_neg hno]; rw [if_neg hn2a]; exact hD, fun z => absurd z hno, fun _ => ⟨(by repeat (first | assumption | refine bR_z (by assumption) (by decide) ?_ | refine bR_I (by decide) ?_ | refine bR_J ?_)), by simp only [zuI_1, zuI_2, zuJ_1, zuJ_2, zuJ_3, zuP_1, zuP_2, zuP_3, zuC_1, zuC_2, reduceIte, Nat.reduceEqDiff, false_and, and_false, true_and, and_true, and_self, or_true, true_or, or_false, false_or]; exact hn⟩, rfl⟩⟩

set_option maxHeartbeats 4000000 in
set_option maxRecDepth 100000 in
theorem c_X9_fallW {l : Launch} {Γ : zΓ} {G : zH} {w : Nat} {p s : Int} {n : Int} {Ws : Nat → aS} {A W : aS}  (hX : zXs Γ) (hR : rW Γ w 0 W G) (hK : kR Γ w A G) (hW : WI A W) (hT : TA A) (hS : rS Γ w W G) (hD : rD w W G) (hn : G.1 1084 w 0 = n) (hn2 : 0 ≤ n ∧ n ≤ 20) (hB : bR Γ w Ws n G) (hQ : wQ W (Ws n.toNat))  : zMet l Γ yX9_fall cX9_fall 3 (some .int) 2 [zr 10 w, zi p, zi s] G (zpi (fun x G' => zsm [2105, 1084, 1002, 2081, 2085] G G' ∧ (x = (if ((0 ≤ p ∧ p < A 4 1) ∧ (0 ≤ s ∧ s < A 4 0)) then (if W 11 (p * 4 + s).toNat < 99 then W 15 p.toNat + 1 else -2) else -1) ∧ rW Γ w 0 (if (((0 ≤ p ∧ p < A 4 1) ∧ (0 ≤ s ∧ s < A 4 0)) ∧ W 11 (p * 4 + s).toNat < 99) then wFall W p s else W) G' ∧ rS Γ w (if (((0 ≤ p ∧ p < A 4 1) ∧ (0 ≤ s ∧ s < A 4 0)) ∧ W 11 (p * 4 + s).toNat < 99) then wFall W p s else W) G' ∧ rD w (if (((0 ≤ p ∧ p < A 4 1) ∧ (0 ≤ s ∧ s < A 4 0)) ∧ W 11 (p * 4 + s).toNat < 99) then wFall W p s else W) G' ∧ ((((0 ≤ p ∧ p < A 4 1) ∧ (0 ≤ s ∧ s < A 4 0)) ∧ W 11 (p * 4 + s).toNat < 99) → rU Γ w Ws n G') ∧ (¬ ((((0 ≤ p ∧ p < A 4 1) ∧ (0 ≤ s ∧ s < A 4 0)) ∧ W 11 (p * 4 + s).toNat < 99)) → rN Γ w Ws n G') ∧ G'.2.1 1088 w 0 = G.2.1 1088 w 0))) := by
  refine zMet_of RX9 hX (by decide) rfl (Nat.le_of_ble_eq_true rfl) ?_
  intro px9 e sx9 m args below meth c C hr hlk
  show Z px9 l e (zrm 2) sx9 m args below meth c Γ 3 0 0 (MQ below (zQc Γ (zpi (fun x G' => zsm [2105, 1084, 1002, 2081, 2085] G G' ∧ (x = (if ((0 ≤ p ∧ p < A 4 1) ∧ (0 ≤ s ∧ s < A 4 0)) then (if W 11 (p * 4 + s).toNat < 99 then W 15 p.toNat + 1 else -2) else -1) ∧ rW Γ w 0 (if (((0 ≤ p ∧ p < A 4 1) ∧ (0 ≤ s ∧ s < A 4 0)) ∧ W 11 (p * 4 + s).toNat < 99) then wFall W p s else W) G' ∧ rS Γ w (if (((0 ≤ p ∧ p < A 4 1) ∧ (0 ≤ s ∧ s < A 4 0)) ∧ W 11 (p * 4 + s).toNat < 99) then wFall W p s else W) G' ∧ rD w (if (((0 ≤ p ∧ p < A 4 1) ∧ (0 ≤ s ∧ s < A 4 0)) ∧ W 11 (p * 4 + s).toNat < 99) then wFall W p s else W) G' ∧ ((((0 ≤ p ∧ p < A 4 1) ∧ (0 ≤ s ∧ s < A 4 0)) ∧ W 11 (p * 4 + s).toNat < 99) → rU Γ w Ws n G') ∧ (¬ ((((0 ≤ p ∧ p < A 4 1) ∧ (0 ≤ s ∧ s < A 4 0)) ∧ W 11 (p * 4 + s).toNat < 99)) → rN Γ w Ws n G') ∧ G'.2.1 1088 w 0 = G.2.1 1088 w 0)))) args sx9 0 0 (zA Γ)) 0 [some (zr 10 w), some (zi p), some (zi s)] [] G
  refine zs_loc 1 rfl (fun ha1 hb1 => ?_)
  refine zs_loc 2 rfl (fun ha2 hb2 => ?_)
  have hT0 := hT.1
  refine zs_aload_n (pc := 0) C dX9_fall_0 rfl ?_
  refine zs_iconst (pc := 1) C dX9_fall_1 (by decide) ?_
  refine zs_puti (r := 1002) (pc := 2) C dX9_fall_2 w_X9_178 f_10_2 rfl (r_1002 0) (by omega) ?_
  refine zs_aload_n (pc := 5) C dX9_fall_5 rfl ?_
  refine zs_iload_n (pc := 6) C dX9_fall_6 rfl ?_
  refine zVip1 (pc := 7) C dX9_fall_7 v_X9_398 (c_X9_isPersonW (A := A) hX (by repeat (first | assumption | refine kR_sm (by assumption) (by decide) ?_ | refine kR_I (by decide) ?_ | refine kR_J ?_))) (by decide) (by decide) ⟨Nat.zero_le _, Nat.zero_le _⟩ (Nat.le_of_ble_eq_true rfl) (fun x7 l7 u7 hp7 => ?_)
  have hq7 := hp7
  try simp only [zuI_1, zuI_2, zuJ_1, zuJ_2, zuJ_3, zuP_1, zuP_2, zuP_3, zuC_1, zuC_2, reduceIte, Nat.reduceEqDiff, false_and, and_false, true_and, and_true, and_self, or_true, true_or, or_false, false_or] at hq7
  refine zs_if_eq (tgt := 21) (pc := 10) C dX9_fall_10 (by decide) (fun h10 => ?_) (fun h10 => ?_)
  · skip
    have hnp : ¬ ((0 ≤ p ∧ p < A 4 1) ∧ (0 ≤ s ∧ s < A 4 0)) := fun z => by have q1 := hq7.2.mpr z.1; first | omega | (have q2 := hq15.2.mpr z.2; omega)
    have hno : ¬ (((0 ≤ p ∧ p < A 4 1) ∧ (0 ≤ s ∧ s < A 4 0)) ∧ W 11 (p * 4 + s).toNat < 99) := fun z => hnp z.1
    refine zs_iconst (pc := 21) C dX9_fall_21 (by decide) ?_
    exact zs_iret (pc := 22) C hr hlk dX9_fall_22 ⟨by repeat (first | exact zsm_rf | assumption | refine zsm_C (by decide) ?_ | refine zsm_I (by decide) ?_ | refine zsm_J ?_ | refine zsm_c (by assumption) (by decide) ?_), ⟨by rw [if_neg hnp], by rw [if_neg hno]; repeat (first | assumption | refine rW_sm (by assumption) (by decide) ?_ | refine rW_I (by decide) ?_ | refine rW_J ?_), by rw [if_neg hno]; repeat (first | assumption | refine rS_sm (by assumption) (by decide) ?_ | refine rS_I (by decide) ?_ | refine rS_J ?_), by rw [if_neg hno]; exact hD, fun z => absurd z hno, fun _ => ⟨(by repeat (first | assumption | refine bR_z (by assumption) (by decide) ?_ | refine bR_I (by decide) ?_ | refine bR_J ?_)), by simp only [zuI_1, zuI_2, zuJ_1, zuJ_2, zuJ_3, zuP_1, zuP_2, zuP_3, zuC_1, zuC_2, reduceIte, Nat.reduceEqDiff, false_and, and_false, true_and, and_true, and_self, or_true, true_or, or_false, false_or]; exact hn⟩, rfl⟩⟩
  · skip
    refine zs_aload_n (pc := 13) C dX9_fall_13 rfl ?_
    refine zs_iload_n (pc := 14) C dX9_fall_14 rfl ?_
    refine zVip1 (pc := 15) C dX9_fall_15 v_X9_407 (c_X9_isSinW (A := A) hX (by repeat (first | assumption | refine kR_sm (by assumption) (by decide) ?_ | refine kR_I (by decide) ?_ | refine kR_J ?_))) (by decide) (by decide) ⟨Nat.zero_le _, Nat.zero_le _⟩ (Nat.le_of_ble_eq_true rfl) (fun x15 l15 u15 hp15 => ?_)
    have hq15 := hp15
    try simp only [zuI_1, zuI_2, zuJ_1, zuJ_2, zuJ_3, zuP_1, zuP_2, zuP_3, zuC_1, zuC_2, reduceIte, Nat.reduceEqDiff, false_and, and_false, true_and, and_true, and_self, or_true, true_or, or_false, false_or] at hq15
    refine zs_if_ne (tgt := 23) (pc := 18) C dX9_fall_18 (by decide) (fun h18 => ?_) (fun h18 => ?_)
    · skip
      have hyp : ((0 ≤ p ∧ p < A 4 1) ∧ (0 ≤ s ∧ s < A 4 0)) := ⟨hq7.2.mp (by omega), hq15.2.mp (by omega)⟩
      have rAp := hR.1 (p * 4 + s).toNat (by omega)
      rw [show (20 * (0 : Int) + ((p * 4 + s).toNat : Int)).toNat = (4 * p + s).toNat by omega] at rAp
      have rBp := hR.2.1 p.toNat (by omega)
      rw [show (5 * (0 : Int) + (p.toNat : Int)).toNat = p.toNat by omega] at rBp
      have h15 := hW.2.2.2.2.1 p.toNat (by omega)
      have g0 := hW.2.2.1 (p.toNat * 4) (by omega)
      have g1 := hW.2.2.1 (p.toNat * 4 + 1) (by omega)
      have g2 := hW.2.2.1 (p.toNat * 4 + 2) (by omega)
      have g3 := hW.2.2.1 (p.toNat * 4 + 3) (by omega)
      refine zs_aload_n (pc := 23) C dX9_fall_23 rfl ?_
      refine zs_getf (pc := 24) C dX9_fall_24 w_X9_88 f_10_51 (by decide) ?_
      refine zs_iconst (pc := 27) C dX9_fall_27 (by decide) ?_
      refine zs_iload_n (pc := 28) C dX9_fall_28 rfl ?_
      first | refine zs_imul (pc := 29) C dX9_fall_29 (by omega) ?_ | refine zs_imulF (pc := 29) C dX9_fall_29 (fun z29 hz291 hz292 => ?_)
      refine zs_iload_n (pc := 30) C dX9_fall_30 rfl ?_
      first | refine zs_iadd (pc := 31) C dX9_fall_31 (by omega) ?_ | refine zs_iaddF (pc := 31) C dX9_fall_31 (fun z31 hz311 hz312 => ?_)
      refine zs_iald (r := 2081) (pc := 32) C dX9_fall_32 a_81 (by decide) (by omega) rfl (r_2081 _) (fun v32 e32 l32 u32 => ?_)
      try simp only [zuI_1, zuI_2, zuJ_1, zuJ_2, zuJ_3, zuP_1, zuP_2, zuP_3, zuC_1, zuC_2, reduceIte, Nat.reduceEqDiff, false_and, and_false, true_and, and_true, and_self, or_true, true_or, or_false, false_or] at e32
      have y32 : v32 = W 11 (p * 4 + s).toNat := e32.trans rAp.1
      refine zs_bipush (pc := 33) C dX9_fall_33 (by decide) (by decide) ?_
      refine zs_icmp_lt (tgt := 41) (pc := 35) C dX9_fall_35 (by decide) (fun h35 => ?_) (fun h35 => ?_)
      · skip
        have hcan : W 11 (p * 4 + s).toNat < 99 := by omega
        have hok : (((0 ≤ p ∧ p < A 4 1) ∧ (0 ≤ s ∧ s < A 4 0)) ∧ W 11 (p * 4 + s).toNat < 99) := ⟨hyp, hcan⟩
        refine zs_aload_n (pc := 41) C dX9_fall_41 rfl ?_
        refine zVv0 (pc := 42) C dX9_fall_42 v_X9_442 (c_X9_rememberW (n := n) (W := W) (Ws := Ws) hX (by simp only [zuI_1, zuI_2, zuJ_1, zuJ_2, zuJ_3, zuP_1, zuP_2, zuP_3, zuC_1, zuC_2, reduceIte, Nat.reduceEqDiff, false_and, and_false, true_and, and_true, and_self, or_true, true_or, or_false, false_or]; exact hn) hn2 (by repeat (first | assumption | refine bR_z (by assumption) (by decide) ?_ | refine bR_I (by decide) ?_ | refine bR_J ?_)) hQ (by repeat (first | assumption | refine rW_sm (by assumption) (by decide) ?_ | refine rW_I (by decide) ?_ | refine rW_J ?_))) (by decide) (by decide) ⟨Nat.zero_le _, Nat.zero_le _⟩ (Nat.le_of_ble_eq_true rfl) (fun G42 hp42 => ?_)
        obtain ⟨hz42, hq42⟩ := hp42
        try simp only [zuI_1, zuI_2, zuJ_1, zuJ_2, zuJ_3, zuP_1, zuP_2, zuP_3, zuC_1, zuC_2, reduceIte, Nat.reduceEqDiff, false_and, and_false, true_and, and_true, and_self, or_true, true_or, or_false, false_or] at hq42
        have hR42 : rW Γ w 0 W G42 := (by repeat (first | assumption | refine rW_sm (by assumption) (by decide) ?_ | refine rW_I (by decide) ?_ | refine rW_J ?_))
        have hS42 : rS Γ w W G42 := (by repeat (first | assumption | refine rS_sm (by assumption) (by decide) ?_ | refine rS_I (by decide) ?_ | refine rS_J ?_))
        have hU42 : rU Γ w Ws n G42 := ⟨hq42.1, hq42.2.1⟩
        refine zs_aload_n (pc := 45) C dX9_fall_45 rfl ?_
        refine zs_getf (pc := 46) C dX9_fall_46 w_X9_88 f_10_51 (by decide) ?_
        refine zs_iconst (pc := 49) C dX9_fall_49 (by decide) ?_
        refine zs_iload_n (pc := 50) C dX9_fall_50 rfl ?_
        first | refine zs_imul (pc := 51) C dX9_fall_51 (by omega) ?_ | refine zs_imulF (pc := 51) C dX9_fall_51 (fun z51 hz511 hz512 => ?_)
        refine zs_iload_n (pc := 52) C dX9_fall_52 rfl ?_
        first | refine zs_iadd (pc := 53) C dX9_fall_53 (by omega) ?_ | refine zs_iaddF (pc := 53) C dX9_fall_53 (fun z53 hz531 hz532 => ?_)
        refine zs_dup2 (pc := 54) C dX9_fall_54 ?_
        refine zs_iald (r := 2081) (pc := 55) C dX9_fall_55 a_81 (by decide) (by omega) rfl (r_2081 _) (fun v55 e55 l55 u55 => ?_)
        have y55 : v55 = W 11 (p * 4 + s).toNat := e55.trans (by rw [hz42.1 2081 (by decide)]; first | exact rAp.1 | (simp only [zuI_1, zuI_2, zuJ_1, zuJ_2, zuJ_3, zuP_1, zuP_2, zuP_3, zuC_1, zuC_2, reduceIte, Nat.reduceEqDiff, false_and, and_false, true_and, and_true, and_self, or_true, true_or, or_false, false_or]; exact rAp.1))
        refine zs_iconst (pc := 56) C dX9_fall_56 (by decide) ?_
        first | refine zs_iadd (pc := 57) C dX9_fall_57 (by omega) ?_ | refine zs_iaddF (pc := 57) C dX9_fall_57 (fun z57 hz571 hz572 => ?_)
        refine zs_iast (r := 2081) (pc := 58) C dX9_fall_58 a_81 (by decide) (by omega) rfl (r_2081 _) (by omega) ?_
        refine zs_aload_n (pc := 59) C dX9_fall_59 rfl ?_
        refine zs_getf (pc := 60) C dX9_fall_60 w_X9_100 f_10_55 (by decide) ?_
        refine zs_iload_n (pc := 63) C dX9_fall_63 rfl ?_
        refine zs_dup2 (pc := 64) C dX9_fall_64 ?_
        refine zs_iald (r := 2085) (pc := 65) C dX9_fall_65 a_85 (by decide) (by omega) rfl (r_2085 _) (fun v65 e65 l65 u65 => ?_)
        try simp only [zuI_1, zuI_2, zuJ_1, zuJ_2, zuJ_3, zuP_1, zuP_2, zuP_3, zuC_1, zuC_2, reduceIte, Nat.reduceEqDiff, false_and, and_false, true_and, and_true, and_self, or_true, true_or, or_false, false_or] at e65
        have y65 : v65 = W 15 p.toNat := by first | exact e65.trans (by rw [hz42.1 2085 (by decide)]; first | exact rBp.2.2.1 | (simp only [zuI_1, zuI_2, zuJ_1, zuJ_2, zuJ_3, zuP_1, zuP_2, zuP_3, zuC_1, zuC_2, reduceIte, Nat.reduceEqDiff, false_and, and_false, true_and, and_true, and_self, or_true, true_or, or_false, false_or]; exact rBp.2.2.1))
        refine zs_iconst (pc := 66) C dX9_fall_66 (by decide) ?_
        first | refine zs_iadd (pc := 67) C dX9_fall_67 (by omega) ?_ | refine zs_iaddF (pc := 67) C dX9_fall_67 (fun z67 hz671 hz672 => ?_)
        refine zs_iast (r := 2085) (pc := 68) C dX9_fall_68 a_85 (by decide) (by omega) rfl (r_2085 _) (by omega) ?_
        refine zs_aload_n (pc := 69) C dX9_fall_69 rfl ?_
        refine zs_getf (pc := 70) C dX9_fall_70 w_X9_100 f_10_55 (by decide) ?_
        refine zs_iload_n (pc := 73) C dX9_fall_73 rfl ?_
        refine zs_iald (r := 2085) (pc := 74) C dX9_fall_74 a_85 (by decide) (by omega) rfl (r_2085 _) (fun v74 e74 l74 u74 => ?_)
        try simp only [zuI_1, zuI_2, zuJ_1, zuJ_2, zuJ_3, zuP_1, zuP_2, zuP_3, zuC_1, zuC_2, reduceIte, Nat.reduceEqDiff, false_and, and_false, true_and, and_true, and_self, or_true, true_or, or_false, false_or] at e74
        exact zs_iret (pc := 75) C hr hlk dX9_fall_75 (by
            subst y55; subst y65
            exact ⟨by repeat (first | exact zsm_rf | assumption | refine zsm_C (by decide) ?_ | refine zsm_I (by decide) ?_ | refine zsm_J ?_ | refine zsm_c (by assumption) (by decide) ?_), ⟨by rw [if_pos hyp, if_pos hcan]; omega, by rw [if_pos hok]; exact rW_fall (by omega) (by omega) hR42, by rw [if_pos hok]; exact rS_W (fun f j hf => by unfold wFall; rw [up_f (by omega), up_f (by omega), up_f (by omega)]) (by repeat (first | assumption | refine rS_sm (by assumption) (by decide) ?_ | refine rS_I (by decide) ?_ | refine rS_J ?_)), by rw [if_pos hok]; exact rD_j (rs := []) (fun r _ => by show G42.2.1 r = _; rw [hq42.2.2]; first | done | rfl) (by decide) hD (by unfold wFall; rw [up_f (by decide), up_f (by decide), up_f (by decide)]), fun _ => rU_z (rs := [2081, 2085]) (by repeat (first | exact zsm_rf | assumption | refine zsm_C (by decide) ?_ | refine zsm_I (by decide) ?_ | refine zsm_J ?_ | refine zsm_c (by assumption) (by decide) ?_)) (by decide) hU42, fun z => absurd hok z, (by show G42.2.1 1088 w 0 = _; rw [hq42.2.2]; first | done | rfl)⟩⟩)
      · skip
        have hnc : ¬ W 11 (p * 4 + s).toNat < 99 := by omega
        have hno : ¬ (((0 ≤ p ∧ p < A 4 1) ∧ (0 ≤ s ∧ s < A 4 0)) ∧ W 11 (p * 4 + s).toNat < 99) := fun z => hnc z.2
        refine zs_bipush (pc := 38) C dX9_fall_38 (by decide) (by decide) ?_
        exact zs_iret (pc := 40) C hr hlk dX9_fall_40 ⟨by repeat (first | exact zsm_rf | assumption | refine zsm_C (by decide) ?_ | refine zsm_I (by decide) ?_ | refine zsm_J ?_ | refine zsm_c (by assumption) (by decide) ?_), ⟨by rw [if_pos hyp, if_neg hnc], by rw [if_neg hno]; repeat (first | assumption | refine rW_sm (by assumption) (by decide) ?_ | refine rW_I (by decide) ?_ | refine rW_J ?_), by rw [if_neg hno]; repeat (first | assumption | refine rS_sm (by assumption) (by decide) ?_ | refine rS_I (by decide) ?_ | refine rS_J ?_), by rw [if_neg hno]; exact hD, fun z => absurd z hno, fun _ => ⟨(by repeat (first | assumption | refine bR_z (by assumption) (by decide) ?_ | refine bR_I (by decide) ?_ | refine bR_J ?_)), by simp only [zuI_1, zuI_2, zuJ_1, zuJ_2, zuJ_3, zuP_1, zuP_2, zuP_3, zuC_1, zuC_2, reduceIte, Nat.reduceEqDiff, false_and, and_false, true_and, and_true, and_self, or_true, true_or, or_false, false_or]; exact hn⟩, rfl⟩⟩
    · skip
      have hnp : ¬ ((0 ≤ p ∧ p < A 4 1) ∧ (0 ≤ s ∧ s < A 4 0)) := fun z => by have q1 := hq7.2.mpr z.1; first | omega | (have q2 := hq15.2.mpr z.2; omega)
      have hno : ¬ (((0 ≤ p ∧ p < A 4 1) ∧ (0 ≤ s ∧ s < A 4 0)) ∧ W 11 (p * 4 + s).toNat < 99) := fun z => hnp z.1
      refine zs_iconst (pc := 21) C dX9_fall_21 (by decide) ?_
      exact zs_iret (pc := 22) C hr hlk dX9_fall_22 ⟨by repeat (first | exact zsm_rf | assumption | refine zsm_C (by decide) ?_ | refine zsm_I (by decide) ?_ | refine zsm_J ?_ | refine zsm_c (by assumption) (by decide) ?_), ⟨by rw [if_neg hnp], by rw [if_neg hno]; repeat (first | assumption | refine rW_sm (by assumption) (by decide) ?_ | refine rW_I (by decide) ?_ | refine rW_J ?_), by rw [if_neg hno]; repeat (first | assumption | refine rS_sm (by assumption) (by decide) ?_ | refine rS_I (by decide) ?_ | refine rS_J ?_), by rw [if_neg hno]; exact hD, fun z => absurd z hno, fun _ => ⟨(by repeat (first | assumption | refine bR_z (by assumption) (by decide) ?_ | refine bR_I (by decide) ?_ | refine bR_J ?_)), by simp only [zuI_1, zuI_2, zuJ_1, zuJ_2, zuJ_3, zuP_1, zuP_2, zuP_3, zuC_1, zuC_2, reduceIte, Nat.reduceEqDiff, false_and, and_false, true_and, and_true, and_self, or_true, true_or, or_false, false_or]; exact hn⟩, rfl⟩⟩

set_option maxHeartbeats 4000000 in
set_option maxRecDepth 100000 in
theorem c_X9_bakeW {l : Launch} {Γ : zΓ} {G : zH} {w : Nat} {c : Int} {n : Int} {Ws : Nat → aS} {A W : aS}  (hX : zXs Γ) (hR : rW Γ w 0 W G) (hK : kR Γ w A G) (hW : WI A W) (hT : TA A) (hS : rS Γ w W G) (hD : rD w W G) (hn : G.1 1084 w 0 = n) (hn2 : 0 ≤ n ∧ n ≤ 20) (hB : bR Γ w Ws n G) (hQ : wQ W (Ws n.toNat))  : zMet l Γ yX9_bake cX9_bake 2 (some .boolean) 2 [zr 10 w, zi c] G (zpi (fun x G' => zsm [2094, 2086, 1073, 2105, 1084, 1002] G G' ∧ (x = (if ((0 ≤ c ∧ c < A 4 2) ∧ W 18 0 ≤ A 11 c.toNat ∧ wCanB A W c) then 1 else 0) ∧ rW Γ w 0 (if ((0 ≤ c ∧ c < A 4 2) ∧ W 18 0 ≤ A 11 c.toNat ∧ wCanB A W c) then wBake A W c else W) G' ∧ rS Γ w (if ((0 ≤ c ∧ c < A 4 2) ∧ W 18 0 ≤ A 11 c.toNat ∧ wCanB A W c) then wBake A W c else W) G' ∧ rD w (if ((0 ≤ c ∧ c < A 4 2) ∧ W 18 0 ≤ A 11 c.toNat ∧ wCanB A W c) then wBake A W c else W) G' ∧ (((0 ≤ c ∧ c < A 4 2) ∧ W 18 0 ≤ A 11 c.toNat ∧ wCanB A W c) → rU Γ w Ws n G') ∧ (¬ (((0 ≤ c ∧ c < A 4 2) ∧ W 18 0 ≤ A 11 c.toNat ∧ wCanB A W c)) → rN Γ w Ws n G') ∧ G'.2.1 1088 w 0 = G.2.1 1088 w 0))) := by
  refine zMet_of RX9 hX (by decide) rfl (Nat.le_of_ble_eq_true rfl) ?_
  intro p e s m args below meth cx9 C hr hlk
  show Z p l e (zrm 2) s m args below meth cx9 Γ 2 0 0 (MQ below (zQc Γ (zpi (fun x G' => zsm [2094, 2086, 1073, 2105, 1084, 1002] G G' ∧ (x = (if ((0 ≤ c ∧ c < A 4 2) ∧ W 18 0 ≤ A 11 c.toNat ∧ wCanB A W c) then 1 else 0) ∧ rW Γ w 0 (if ((0 ≤ c ∧ c < A 4 2) ∧ W 18 0 ≤ A 11 c.toNat ∧ wCanB A W c) then wBake A W c else W) G' ∧ rS Γ w (if ((0 ≤ c ∧ c < A 4 2) ∧ W 18 0 ≤ A 11 c.toNat ∧ wCanB A W c) then wBake A W c else W) G' ∧ rD w (if ((0 ≤ c ∧ c < A 4 2) ∧ W 18 0 ≤ A 11 c.toNat ∧ wCanB A W c) then wBake A W c else W) G' ∧ (((0 ≤ c ∧ c < A 4 2) ∧ W 18 0 ≤ A 11 c.toNat ∧ wCanB A W c) → rU Γ w Ws n G') ∧ (¬ (((0 ≤ c ∧ c < A 4 2) ∧ W 18 0 ≤ A 11 c.toNat ∧ wCanB A W c)) → rN Γ w Ws n G') ∧ G'.2.1 1088 w 0 = G.2.1 1088 w 0)))) args s 0 0 (zA Γ)) 0 [some (zr 10 w), some (zi c)] [] G
  refine zs_loc 1 rfl (fun ha1 hb1 => ?_)
  refine zs_aload_n (pc := 0) C dX9_bake_0 rfl ?_
  refine zs_iconst (pc := 1) C dX9_bake_1 (by decide) ?_
  refine zs_puti (r := 1002) (pc := 2) C dX9_bake_2 w_X9_178 f_10_2 rfl (r_1002 0) (by omega) ?_
  refine zs_aload_n (pc := 5) C dX9_bake_5 rfl ?_
  refine zs_iload_n (pc := 6) C dX9_bake_6 rfl ?_
  refine zVip1 (pc := 7) C dX9_bake_7 v_X9_471 (c_X9_isCakeW (A := A) hX (by repeat (first | assumption | refine kR_sm (by assumption) (by decide) ?_ | refine kR_I (by decide) ?_ | refine kR_J ?_))) (by decide) (by decide) ⟨Nat.zero_le _, Nat.zero_le _⟩ (Nat.le_of_ble_eq_true rfl) (fun x7 l7 u7 hp7 => ?_)
  have hq7 := hp7
  try simp only [zuI_1, zuI_2, zuJ_1, zuJ_2, zuJ_3, zuP_1, zuP_2, zuP_3, zuC_1, zuC_2, reduceIte, Nat.reduceEqDiff, false_and, and_false, true_and, and_true, and_self, or_true, true_or, or_false, false_or] at hq7
  refine zs_if_eq (tgt := 22) (pc := 10) C dX9_bake_10 (by decide) (fun h10 => ?_) (fun h10 => ?_)
  · skip
    have hno : ¬ ((0 ≤ c ∧ c < A 4 2) ∧ W 18 0 ≤ A 11 c.toNat ∧ wCanB A W c) := fun z => by have q1 := hq7.2.mpr z.1; first | omega | (have q2 := hq16.2.mpr z.2; omega)
    refine zs_iconst (pc := 22) C dX9_bake_22 (by decide) ?_
    exact zs_zret (pc := 23) C hr hlk dX9_bake_23 (by omega) ⟨by repeat (first | exact zsm_rf | assumption | refine zsm_C (by decide) ?_ | refine zsm_I (by decide) ?_ | refine zsm_J ?_ | refine zsm_c (by assumption) (by decide) ?_), ⟨by rw [if_neg hno], by rw [if_neg hno]; repeat (first | assumption | refine rW_sm (by assumption) (by decide) ?_ | refine rW_I (by decide) ?_ | refine rW_J ?_), by rw [if_neg hno]; repeat (first | assumption | refine rS_sm (by assumption) (by decide) ?_ | refine rS_I (by decide) ?_ | refine rS_J ?_), by rw [if_neg hno]; exact hD, fun z => absurd z hno, fun _ => ⟨(by repeat (first | assumption | refine bR_z (by assumption) (by decide) ?_ | refine bR_I (by decide) ?_ | refine bR_J ?_)), by simp only [zuI_1, zuI_2, zuJ_1, zuJ_2, zuJ_3, zuP_1, zuP_2, zuP_3, zuC_1, zuC_2, reduceIte, Nat.reduceEqDiff, false_and, and_false, true_and, and_true, and_self, or_true, true_or, or_false, false_or]; exact hn⟩, rfl⟩⟩
  · skip
    refine zs_aload_n (pc := 13) C dX9_bake_13 rfl ?_
    refine zs_iconst (pc := 14) C dX9_bake_14 (by decide) ?_
    refine zs_iload_n (pc := 15) C dX9_bake_15 rfl ?_
    refine zVip2 (pc := 16) C dX9_bake_16 v_X9_474 (c_X9_canBakeW0 hX (by omega) (by repeat (first | assumption | refine rW_sm (by assumption) (by decide) ?_ | refine rW_I (by decide) ?_ | refine rW_J ?_)) (by repeat (first | assumption | refine kR_sm (by assumption) (by decide) ?_ | refine kR_I (by decide) ?_ | refine kR_J ?_)) hW hT) (by decide) (by decide) ⟨Nat.zero_le _, Nat.zero_le _⟩ (Nat.le_of_ble_eq_true rfl) (fun x16 l16 u16 hp16 => ?_)
    have hq16 := hp16
    try simp only [zuI_1, zuI_2, zuJ_1, zuJ_2, zuJ_3, zuP_1, zuP_2, zuP_3, zuC_1, zuC_2, reduceIte, Nat.reduceEqDiff, false_and, and_false, true_and, and_true, and_self, or_true, true_or, or_false, false_or] at hq16
    refine zs_if_ne (tgt := 24) (pc := 19) C dX9_bake_19 (by decide) (fun h19 => ?_) (fun h19 => ?_)
    · skip
      have hok : ((0 ≤ c ∧ c < A 4 2) ∧ W 18 0 ≤ A 11 c.toNat ∧ wCanB A W c) := ⟨hq7.2.mp (by omega), hq16.2.mp (by omega)⟩
      refine zs_aload_n (pc := 24) C dX9_bake_24 rfl ?_
      refine zVv0 (pc := 25) C dX9_bake_25 v_X9_442 (c_X9_rememberW (n := n) (W := W) (Ws := Ws) hX (by simp only [zuI_1, zuI_2, zuJ_1, zuJ_2, zuJ_3, zuP_1, zuP_2, zuP_3, zuC_1, zuC_2, reduceIte, Nat.reduceEqDiff, false_and, and_false, true_and, and_true, and_self, or_true, true_or, or_false, false_or]; exact hn) hn2 (by repeat (first | assumption | refine bR_z (by assumption) (by decide) ?_ | refine bR_I (by decide) ?_ | refine bR_J ?_)) hQ (by repeat (first | assumption | refine rW_sm (by assumption) (by decide) ?_ | refine rW_I (by decide) ?_ | refine rW_J ?_))) (by decide) (by decide) ⟨Nat.zero_le _, Nat.zero_le _⟩ (Nat.le_of_ble_eq_true rfl) (fun G25 hp25 => ?_)
      obtain ⟨hz25, hq25⟩ := hp25
      try simp only [zuI_1, zuI_2, zuJ_1, zuJ_2, zuJ_3, zuP_1, zuP_2, zuP_3, zuC_1, zuC_2, reduceIte, Nat.reduceEqDiff, false_and, and_false, true_and, and_true, and_self, or_true, true_or, or_false, false_or] at hq25
      refine zs_aload_n (pc := 28) C dX9_bake_28 rfl ?_
      refine zs_iconst (pc := 29) C dX9_bake_29 (by decide) ?_
      refine zs_iload_n (pc := 30) C dX9_bake_30 rfl ?_
      refine zVv2 (pc := 31) C dX9_bake_31 v_X9_477 (c_X9_bakesW0 hX (by omega) (by repeat (first | assumption | refine rW_sm (by assumption) (by decide) ?_ | refine rW_I (by decide) ?_ | refine rW_J ?_)) (by repeat (first | assumption | refine kR_sm (by assumption) (by decide) ?_ | refine kR_I (by decide) ?_ | refine kR_J ?_)) hW hT hok.2.2) (by decide) (by decide) ⟨Nat.zero_le _, Nat.zero_le _⟩ (Nat.le_of_ble_eq_true rfl) (fun G31 hp31 => ?_)
      obtain ⟨hz31, hq31⟩ := hp31
      refine zs_iconst (pc := 34) C dX9_bake_34 (by decide) ?_
      exact zs_zret (pc := 35) C hr hlk dX9_bake_35 (by omega) (by exact ⟨by repeat (first | exact zsm_rf | assumption | refine zsm_C (by decide) ?_ | refine zsm_I (by decide) ?_ | refine zsm_J ?_ | refine zsm_c (by assumption) (by decide) ?_), ⟨by rw [if_pos hok], by rw [if_pos hok]; exact hq31.1, by rw [if_pos hok]; exact rS_W (fun f j hf => wBake_f (by omega) (by omega) (by omega)) (by repeat (first | assumption | refine rS_sm (by assumption) (by decide) ?_ | refine rS_I (by decide) ?_ | refine rS_J ?_)), by rw [if_pos hok]; exact rD_j (rs := []) (fun r _ => by rw [hq31.2.2]; rw [hq25.2.2]; first | done | rfl) (by decide) hD (wBake_f (by decide) (by decide) (by decide)), fun _ => rU_z hz31 (by decide) ⟨hq25.1, hq25.2.1⟩, fun z => absurd hok z, (by rw [hq31.2.2, hq25.2.2]; first | done | rfl)⟩⟩)
    · skip
      have hno : ¬ ((0 ≤ c ∧ c < A 4 2) ∧ W 18 0 ≤ A 11 c.toNat ∧ wCanB A W c) := fun z => by have q1 := hq7.2.mpr z.1; first | omega | (have q2 := hq16.2.mpr z.2; omega)
      refine zs_iconst (pc := 22) C dX9_bake_22 (by decide) ?_
      exact zs_zret (pc := 23) C hr hlk dX9_bake_23 (by omega) ⟨by repeat (first | exact zsm_rf | assumption | refine zsm_C (by decide) ?_ | refine zsm_I (by decide) ?_ | refine zsm_J ?_ | refine zsm_c (by assumption) (by decide) ?_), ⟨by rw [if_neg hno], by rw [if_neg hno]; repeat (first | assumption | refine rW_sm (by assumption) (by decide) ?_ | refine rW_I (by decide) ?_ | refine rW_J ?_), by rw [if_neg hno]; repeat (first | assumption | refine rS_sm (by assumption) (by decide) ?_ | refine rS_I (by decide) ?_ | refine rS_J ?_), by rw [if_neg hno]; exact hD, fun z => absurd z hno, fun _ => ⟨(by repeat (first | assumption | refine bR_z (by assumption) (by decide) ?_ | refine bR_I (by decide) ?_ | refine bR_J ?_)), by simp only [zuI_1, zuI_2, zuJ_1, zuJ_2, zuJ_3, zuP_1, zuP_2, zuP_3, zuC_1, zuC_2, reduceIte, Nat.reduceEqDiff, false_and, and_false, true_and, and_true, and_self, or_true, true_or, or_false, false_or]; exact hn⟩, rfl⟩⟩

set_option maxHeartbeats 4000000 in
set_option maxRecDepth 100000 in
theorem c_X9_bakedW {l : Launch} {Γ : zΓ} {G : zH} {w : Nat} {c : Int} {A W : aS}  (hX : zXs Γ) (hR : rW Γ w 0 W G) (hK : kR Γ w A G) (hT : TA A)  : zMet l Γ yX9_baked cX9_baked 2 (some .int) 1 [zr 10 w, zi c] G (zpi (fun x G' => zsm [1002] G G' ∧ RO G G' ∧ (x = if (0 ≤ c ∧ c < A 4 2) then (if W 16 c.toNat = -1 then -2 else W 16 c.toNat) else -1))) := by
  refine zMet_of RX9 hX (by decide) rfl (Nat.le_of_ble_eq_true rfl) ?_
  intro p e s m args below meth cx9 C hr hlk
  show Z p l e (zrm 1) s m args below meth cx9 Γ 2 0 0 (MQ below (zQc Γ (zpi (fun x G' => zsm [1002] G G' ∧ RO G G' ∧ (x = if (0 ≤ c ∧ c < A 4 2) then (if W 16 c.toNat = -1 then -2 else W 16 c.toNat) else -1)))) args s 0 0 (zA Γ)) 0 [some (zr 10 w), some (zi c)] [] G
  refine zs_loc 1 rfl (fun ha1 hb1 => ?_)
  have hT0 := hT.1
  refine zs_aload_n (pc := 0) C dX9_baked_0 rfl ?_
  refine zs_iconst (pc := 1) C dX9_baked_1 (by decide) ?_
  refine zs_puti (r := 1002) (pc := 2) C dX9_baked_2 w_X9_178 f_10_2 rfl (r_1002 0) (by omega) ?_
  refine zs_aload_n (pc := 5) C dX9_baked_5 rfl ?_
  refine zs_iload_n (pc := 6) C dX9_baked_6 rfl ?_
  refine zVip1 (pc := 7) C dX9_baked_7 v_X9_471 (c_X9_isCakeW (A := A) hX (by repeat (first | assumption | refine kR_sm (by assumption) (by decide) ?_ | refine kR_I (by decide) ?_ | refine kR_J ?_))) (by decide) (by decide) ⟨Nat.zero_le _, Nat.zero_le _⟩ (Nat.le_of_ble_eq_true rfl) (fun x7 l7 u7 hp7 => ?_)
  have hq7 := hp7
  try simp only [zuI_1, zuI_2, zuJ_1, zuJ_2, zuJ_3, zuP_1, zuP_2, zuP_3, zuC_1, zuC_2, reduceIte, Nat.reduceEqDiff, false_and, and_false, true_and, and_true, and_self, or_true, true_or, or_false, false_or] at hq7
  refine zs_if_eq (tgt := 22) (pc := 10) C dX9_baked_10 (by decide) (fun h10 => ?_) (fun h10 => ?_)
  · skip
    refine zs_iconst (pc := 22) C dX9_baked_22 (by decide) ?_
    exact zs_iret (pc := 23) C hr hlk dX9_baked_23 (by first | exact ⟨by repeat (first | exact zsm_rf | assumption | refine zsm_C (by decide) ?_ | refine zsm_I (by decide) ?_ | refine zsm_J ?_ | refine zsm_c (by assumption) (by decide) ?_), (by with_reducible repeat (first | exact RO_rf | assumption | refine RO_0 (by decide) ?_ | refine RO_n 20 (by decide) (by omega) ?_ | refine RO_n 5 (by decide) (by omega) ?_ | refine RO_n 60 (by decide) (by omega) ?_ | refine RO_n 1 (by decide) (by omega) ?_ | refine RO_J (by decide) ?_ | refine RO_c (by assumption) ?_)), (by rw [if_pos (hq7.2.mp (by omega))]; exact y18)⟩ | exact ⟨by repeat (first | exact zsm_rf | assumption | refine zsm_C (by decide) ?_ | refine zsm_I (by decide) ?_ | refine zsm_J ?_ | refine zsm_c (by assumption) (by decide) ?_), (by with_reducible repeat (first | exact RO_rf | assumption | refine RO_0 (by decide) ?_ | refine RO_n 20 (by decide) (by omega) ?_ | refine RO_n 5 (by decide) (by omega) ?_ | refine RO_n 60 (by decide) (by omega) ?_ | refine RO_n 1 (by decide) (by omega) ?_ | refine RO_J (by decide) ?_ | refine RO_c (by assumption) ?_)), (by rw [if_neg (fun z => by have := hq7.2.mpr z; omega)])⟩)
  · skip
    refine zs_aload_n (pc := 13) C dX9_baked_13 rfl ?_
    refine zs_getf (pc := 14) C dX9_baked_14 w_X9_103 f_10_56 (by decide) ?_
    refine zs_iload_n (pc := 17) C dX9_baked_17 rfl ?_
    refine zs_iald (r := 2086) (pc := 18) C dX9_baked_18 a_86 (by decide) (by omega) rfl (r_2086 _) (fun v18 e18 l18 u18 => ?_)
    try simp only [zuI_1, zuI_2, zuJ_1, zuJ_2, zuJ_3, zuP_1, zuP_2, zuP_3, zuC_1, zuC_2, reduceIte, Nat.reduceEqDiff, false_and, and_false, true_and, and_true, and_self, or_true, true_or, or_false, false_or] at e18
    have y18 : v18 = (if W 16 c.toNat = -1 then -2 else W 16 c.toNat) := by have q := (hR.2.1 c.toNat (by omega)).2.2.2; rw [show (5 * (0 : Int) + (c.toNat : Int)).toNat = c.toNat by omega] at q; exact e18.trans q
    refine zs_goto (tgt := 23) (pc := 19) C dX9_baked_19 (by decide) ?_
    exact zs_iret (pc := 23) C hr hlk dX9_baked_23 (by first | exact ⟨by repeat (first | exact zsm_rf | assumption | refine zsm_C (by decide) ?_ | refine zsm_I (by decide) ?_ | refine zsm_J ?_ | refine zsm_c (by assumption) (by decide) ?_), (by with_reducible repeat (first | exact RO_rf | assumption | refine RO_0 (by decide) ?_ | refine RO_n 20 (by decide) (by omega) ?_ | refine RO_n 5 (by decide) (by omega) ?_ | refine RO_n 60 (by decide) (by omega) ?_ | refine RO_n 1 (by decide) (by omega) ?_ | refine RO_J (by decide) ?_ | refine RO_c (by assumption) ?_)), (by rw [if_pos (hq7.2.mp (by omega))]; exact y18)⟩ | exact ⟨by repeat (first | exact zsm_rf | assumption | refine zsm_C (by decide) ?_ | refine zsm_I (by decide) ?_ | refine zsm_J ?_ | refine zsm_c (by assumption) (by decide) ?_), (by with_reducible repeat (first | exact RO_rf | assumption | refine RO_0 (by decide) ?_ | refine RO_n 20 (by decide) (by omega) ?_ | refine RO_n 5 (by decide) (by omega) ?_ | refine RO_n 60 (by decide) (by omega) ?_ | refine RO_n 1 (by decide) (by omega) ?_ | refine RO_J (by decide) ?_ | refine RO_c (by assumption) ?_)), (by rw [if_neg (fun z => by have := hq7.2.mpr z; omega)])⟩)

set_option maxHeartbeats 4000000 in
set_option maxRecDepth 100000 in
theorem c_X9_flourW {l : Launch} {Γ : zΓ} {G : zH} {w : Nat} {a : Int} {A W : aS}  (hX : zXs Γ) (hR : rW Γ w 0 W G) (hW : WI A W)  : zMet l Γ yX9_flour cX9_flour 2 (some .int) 2 [zr 10 w, zi a] G (zpi (fun x G' => zsm [1002] G G' ∧ RO G G' ∧ (x = if 0 ≤ a ∧ a ≤ 999 then wFlour W a else -1))) := by
  refine zMet_of RX9 hX (by decide) rfl (Nat.le_of_ble_eq_true rfl) ?_
  intro p e s m args below meth c C hr hlk
  show Z p l e (zrm 2) s m args below meth c Γ 2 0 0 (MQ below (zQc Γ (zpi (fun x G' => zsm [1002] G G' ∧ RO G G' ∧ (x = if 0 ≤ a ∧ a ≤ 999 then wFlour W a else -1)))) args s 0 0 (zA Γ)) 0 [some (zr 10 w), some (zi a)] [] G
  refine zs_loc 1 rfl (fun ha1 hb1 => ?_)
  refine zs_aload_n (pc := 0) C dX9_flour_0 rfl ?_
  refine zs_iconst (pc := 1) C dX9_flour_1 (by decide) ?_
  refine zs_puti (r := 1002) (pc := 2) C dX9_flour_2 w_X9_178 f_10_2 rfl (r_1002 0) (by omega) ?_
  refine zs_iload_n (pc := 5) C dX9_flour_5 rfl ?_
  refine zSip1 (pc := 6) C dX9_flour_6 s_X9_465 (c_X9_isFineW hX ) (by decide) ⟨Nat.zero_le _, Nat.zero_le _⟩ (Nat.le_of_ble_eq_true rfl) (fun x6 l6 u6 hp6 => ?_)
  have hq6 := hp6
  try simp only [zuI_1, zuI_2, zuJ_1, zuJ_2, zuJ_3, zuP_1, zuP_2, zuP_3, zuC_1, zuC_2, reduceIte, Nat.reduceEqDiff, false_and, and_false, true_and, and_true, and_self, or_true, true_or, or_false, false_or] at hq6
  refine zs_if_eq (tgt := 21) (pc := 9) C dX9_flour_9 (by decide) (fun h9 => ?_) (fun h9 => ?_)
  · skip
    refine zs_iconst (pc := 21) C dX9_flour_21 (by decide) ?_
    exact zs_iret (pc := 22) C hr hlk dX9_flour_22 (by first | exact ⟨by repeat (first | exact zsm_rf | assumption | refine zsm_C (by decide) ?_ | refine zsm_I (by decide) ?_ | refine zsm_J ?_ | refine zsm_c (by assumption) (by decide) ?_), (by with_reducible repeat (first | exact RO_rf | assumption | refine RO_0 (by decide) ?_ | refine RO_n 20 (by decide) (by omega) ?_ | refine RO_n 5 (by decide) (by omega) ?_ | refine RO_n 60 (by decide) (by omega) ?_ | refine RO_n 1 (by decide) (by omega) ?_ | refine RO_J (by decide) ?_ | refine RO_c (by assumption) ?_)), (by rw [if_pos (hq6.2.mp (by omega))]; exact hq15)⟩ | exact ⟨by repeat (first | exact zsm_rf | assumption | refine zsm_C (by decide) ?_ | refine zsm_I (by decide) ?_ | refine zsm_J ?_ | refine zsm_c (by assumption) (by decide) ?_), (by with_reducible repeat (first | exact RO_rf | assumption | refine RO_0 (by decide) ?_ | refine RO_n 20 (by decide) (by omega) ?_ | refine RO_n 5 (by decide) (by omega) ?_ | refine RO_n 60 (by decide) (by omega) ?_ | refine RO_n 1 (by decide) (by omega) ?_ | refine RO_J (by decide) ?_ | refine RO_c (by assumption) ?_)), (by rw [if_neg (fun z => by have := hq6.2.mpr z; omega)])⟩)
  · skip
    refine zs_aload_n (pc := 12) C dX9_flour_12 rfl ?_
    refine zs_iconst (pc := 13) C dX9_flour_13 (by decide) ?_
    refine zs_iload_n (pc := 14) C dX9_flour_14 rfl ?_
    refine zVip2 (pc := 15) C dX9_flour_15 v_X9_468 (c_X9_flourOfW hX (Or.inl rfl) (by repeat (first | assumption | refine rW_sm (by assumption) (by decide) ?_ | refine rW_I (by decide) ?_ | refine rW_J ?_)) hW) (by decide) (by decide) ⟨Nat.zero_le _, Nat.zero_le _⟩ (Nat.le_of_ble_eq_true rfl) (fun x15 l15 u15 hp15 => ?_)
    have hq15 := hp15
    try simp only [zuI_1, zuI_2, zuJ_1, zuJ_2, zuJ_3, zuP_1, zuP_2, zuP_3, zuC_1, zuC_2, reduceIte, Nat.reduceEqDiff, false_and, and_false, true_and, and_true, and_self, or_true, true_or, or_false, false_or] at hq15
    refine zs_goto (tgt := 22) (pc := 18) C dX9_flour_18 (by decide) ?_
    exact zs_iret (pc := 22) C hr hlk dX9_flour_22 (by first | exact ⟨by repeat (first | exact zsm_rf | assumption | refine zsm_C (by decide) ?_ | refine zsm_I (by decide) ?_ | refine zsm_J ?_ | refine zsm_c (by assumption) (by decide) ?_), (by with_reducible repeat (first | exact RO_rf | assumption | refine RO_0 (by decide) ?_ | refine RO_n 20 (by decide) (by omega) ?_ | refine RO_n 5 (by decide) (by omega) ?_ | refine RO_n 60 (by decide) (by omega) ?_ | refine RO_n 1 (by decide) (by omega) ?_ | refine RO_J (by decide) ?_ | refine RO_c (by assumption) ?_)), (by rw [if_pos (hq6.2.mp (by omega))]; exact hq15)⟩ | exact ⟨by repeat (first | exact zsm_rf | assumption | refine zsm_C (by decide) ?_ | refine zsm_I (by decide) ?_ | refine zsm_J ?_ | refine zsm_c (by assumption) (by decide) ?_), (by with_reducible repeat (first | exact RO_rf | assumption | refine RO_0 (by decide) ?_ | refine RO_n 20 (by decide) (by omega) ?_ | refine RO_n 5 (by decide) (by omega) ?_ | refine RO_n 60 (by decide) (by omega) ?_ | refine RO_n 1 (by decide) (by omega) ?_ | refine RO_J (by decide) ?_ | refine RO_c (by assumption) ?_)), (by rw [if_neg (fun z => by have := hq6.2.mpr z; omega)])⟩)

set_option maxHeartbeats 4000000 in
set_option maxRecDepth 100000 in
theorem c_X9_sackW {l : Launch} {Γ : zΓ} {G : zH} {w : Nat} {i k : Int} {A W : aS}  (hX : zXs Γ) (hR : rW Γ w 0 W G) (hW : WI A W) (hS : rS Γ w W G)  : zMet l Γ yX9_sack cX9_sack 3 (some .int) 0 [zr 10 w, zi i, zi k] G (zpi (fun x G' => zsm [1002] G G' ∧ RO G G' ∧ (x = if 0 ≤ i ∧ i < W 0 0 then (if k = 0 then W 1 i.toNat else if k = 1 then W 2 i.toNat else if k = 2 then W 3 i.toNat else if k = 3 then W 5 i.toNat else if k = 4 then wLie W i (W 2 i.toNat) else -1) else -1))) := by
  refine zMet_of RX9 hX (by decide) rfl (Nat.le_of_ble_eq_true rfl) ?_
  intro p e s m args below meth c C hr hlk
  show Z p l e (zrm 0) s m args below meth c Γ 3 0 0 (MQ below (zQc Γ (zpi (fun x G' => zsm [1002] G G' ∧ RO G G' ∧ (x = if 0 ≤ i ∧ i < W 0 0 then (if k = 0 then W 1 i.toNat else if k = 1 then W 2 i.toNat else if k = 2 then W 3 i.toNat else if k = 3 then W 5 i.toNat else if k = 4 then wLie W i (W 2 i.toNat) else -1) else -1)))) args s 0 0 (zA Γ)) 0 [some (zr 10 w), some (zi i), some (zi k)] [] G
  refine zs_loc 1 rfl (fun ha1 hb1 => ?_)
  refine zs_loc 2 rfl (fun ha2 hb2 => ?_)
  have h00 := hW.1
  refine zs_aload_n (pc := 0) C dX9_sack_0 rfl ?_
  refine zs_iconst (pc := 1) C dX9_sack_1 (by decide) ?_
  refine zs_puti (r := 1002) (pc := 2) C dX9_sack_2 w_X9_178 f_10_2 rfl (r_1002 0) (by omega) ?_
  refine zs_iload_n (pc := 5) C dX9_sack_5 rfl ?_
  refine zs_if_lt (tgt := 19) (pc := 6) C dX9_sack_6 (by decide) (fun h6 => ?_) (fun h6 => ?_)
  · skip
    refine zs_iconst (pc := 19) C dX9_sack_19 (by decide) ?_
    exact zs_iret (pc := 20) C hr hlk dX9_sack_20 ⟨by repeat (first | exact zsm_rf | assumption | refine zsm_C (by decide) ?_ | refine zsm_I (by decide) ?_ | refine zsm_J ?_ | refine zsm_c (by assumption) (by decide) ?_), (by with_reducible repeat (first | exact RO_rf | assumption | refine RO_0 (by decide) ?_ | refine RO_n 20 (by decide) (by omega) ?_ | refine RO_n 5 (by decide) (by omega) ?_ | refine RO_n 60 (by decide) (by omega) ?_ | refine RO_n 1 (by decide) (by omega) ?_ | refine RO_J (by decide) ?_ | refine RO_c (by assumption) ?_)), (by rw [if_neg (by omega)])⟩
  · skip
    refine zs_iload_n (pc := 9) C dX9_sack_9 rfl ?_
    refine zs_aload_n (pc := 10) C dX9_sack_10 rfl ?_
    refine zs_getf (pc := 11) C dX9_sack_11 w_X9_106 f_10_57 (by decide) ?_
    refine zs_iconst (pc := 14) C dX9_sack_14 (by decide) ?_
    refine zs_iald (r := 2087) (pc := 15) C dX9_sack_15 a_87 (by decide) (by omega) rfl (r_2087 _) (fun v15 e15 l15 u15 => ?_)
    try simp only [zuI_1, zuI_2, zuJ_1, zuJ_2, zuJ_3, zuP_1, zuP_2, zuP_3, zuC_1, zuC_2, reduceIte, Nat.reduceEqDiff, false_and, and_false, true_and, and_true, and_self, or_true, true_or, or_false, false_or] at e15
    have y15 : v15 = W 0 0 := e15.trans hR.2.2.1.1
    refine zs_icmp_lt (tgt := 21) (pc := 16) C dX9_sack_16 (by decide) (fun h16 => ?_) (fun h16 => ?_)
    · skip
      obtain ⟨s1, s2, s3, -⟩ := hS.1 i.toNat (by omega)
      obtain ⟨t1, t2⟩ := hR.2.2.2 i.toNat (by omega)
      rw [show (60 * (0 : Int) + (i.toNat : Int)).toNat = i.toNat by omega] at t1 t2
      rw [show ((i.toNat : Nat) : Int) = i by omega] at s3
      refine zs_iload_n (pc := 21) C dX9_sack_21 rfl ?_
      refine zs_name (fun y22 ey22 => ?_)
      rcases (show y22 = 0 ∨ y22 = 1 ∨ y22 = 2 ∨ y22 = 3 ∨ y22 = 4 ∨ (y22 < 0 ∨ 4 < y22) by omega) with h22 | h22 | h22 | h22 | h22 | h22
      · skip
        refine zs_tabIn (pc := 22) (tgt := 56) C 0 dX9_sack_22 h22 (by decide) rfl (by decide) ?_
        refine zs_aload_n (pc := 56) C dX9_sack_56 rfl ?_
        refine zs_getf (pc := 57) C dX9_sack_57 w_X9_118 f_10_62 (by decide) ?_
        refine zs_iload_n (pc := 60) C dX9_sack_60 rfl ?_
        refine zs_iald (r := 2091) (pc := 61) C dX9_sack_61 a_91 (by decide) (by omega) rfl (r_2091 _) (fun v61 e61 l61 u61 => ?_)
        try simp only [zuI_1, zuI_2, zuJ_1, zuJ_2, zuJ_3, zuP_1, zuP_2, zuP_3, zuC_1, zuC_2, reduceIte, Nat.reduceEqDiff, false_and, and_false, true_and, and_true, and_self, or_true, true_or, or_false, false_or] at e61
        exact zs_iret (pc := 62) C hr hlk dX9_sack_62 ⟨by repeat (first | exact zsm_rf | assumption | refine zsm_C (by decide) ?_ | refine zsm_I (by decide) ?_ | refine zsm_J ?_ | refine zsm_c (by assumption) (by decide) ?_), (by with_reducible repeat (first | exact RO_rf | assumption | refine RO_0 (by decide) ?_ | refine RO_n 20 (by decide) (by omega) ?_ | refine RO_n 5 (by decide) (by omega) ?_ | refine RO_n 60 (by decide) (by omega) ?_ | refine RO_n 1 (by decide) (by omega) ?_ | refine RO_J (by decide) ?_ | refine RO_c (by assumption) ?_)), (by rw [if_pos (by omega), if_pos (by omega)]; exact e61.trans s1)⟩
      · skip
        refine zs_tabIn (pc := 22) (tgt := 63) C 1 dX9_sack_22 h22 (by decide) rfl (by decide) ?_
        refine zs_aload_n (pc := 63) C dX9_sack_63 rfl ?_
        refine zs_getf (pc := 64) C dX9_sack_64 w_X9_121 f_10_63 (by decide) ?_
        refine zs_iload_n (pc := 67) C dX9_sack_67 rfl ?_
        refine zs_iald (r := 2092) (pc := 68) C dX9_sack_68 a_92 (by decide) (by omega) rfl (r_2092 _) (fun v68 e68 l68 u68 => ?_)
        try simp only [zuI_1, zuI_2, zuJ_1, zuJ_2, zuJ_3, zuP_1, zuP_2, zuP_3, zuC_1, zuC_2, reduceIte, Nat.reduceEqDiff, false_and, and_false, true_and, and_true, and_self, or_true, true_or, or_false, false_or] at e68
        exact zs_iret (pc := 69) C hr hlk dX9_sack_69 ⟨by repeat (first | exact zsm_rf | assumption | refine zsm_C (by decide) ?_ | refine zsm_I (by decide) ?_ | refine zsm_J ?_ | refine zsm_c (by assumption) (by decide) ?_), (by with_reducible repeat (first | exact RO_rf | assumption | refine RO_0 (by decide) ?_ | refine RO_n 20 (by decide) (by omega) ?_ | refine RO_n 5 (by decide) (by omega) ?_ | refine RO_n 60 (by decide) (by omega) ?_ | refine RO_n 1 (by decide) (by omega) ?_ | refine RO_J (by decide) ?_ | refine RO_c (by assumption) ?_)), (by rw [if_pos (by omega), if_neg (by omega), if_pos (by omega)]; exact e68.trans s2)⟩
      · skip
        refine zs_tabIn (pc := 22) (tgt := 70) C 2 dX9_sack_22 h22 (by decide) rfl (by decide) ?_
        refine zs_aload_n (pc := 70) C dX9_sack_70 rfl ?_
        refine zs_getf (pc := 71) C dX9_sack_71 w_X9_124 f_10_64 (by decide) ?_
        refine zs_iload_n (pc := 74) C dX9_sack_74 rfl ?_
        refine zs_iald (r := 2093) (pc := 75) C dX9_sack_75 a_93 (by decide) (by omega) rfl (r_2093 _) (fun v75 e75 l75 u75 => ?_)
        try simp only [zuI_1, zuI_2, zuJ_1, zuJ_2, zuJ_3, zuP_1, zuP_2, zuP_3, zuC_1, zuC_2, reduceIte, Nat.reduceEqDiff, false_and, and_false, true_and, and_true, and_self, or_true, true_or, or_false, false_or] at e75
        exact zs_iret (pc := 76) C hr hlk dX9_sack_76 ⟨by repeat (first | exact zsm_rf | assumption | refine zsm_C (by decide) ?_ | refine zsm_I (by decide) ?_ | refine zsm_J ?_ | refine zsm_c (by assumption) (by decide) ?_), (by with_reducible repeat (first | exact RO_rf | assumption | refine RO_0 (by decide) ?_ | refine RO_n 20 (by decide) (by omega) ?_ | refine RO_n 5 (by decide) (by omega) ?_ | refine RO_n 60 (by decide) (by omega) ?_ | refine RO_n 1 (by decide) (by omega) ?_ | refine RO_J (by decide) ?_ | refine RO_c (by assumption) ?_)), (by rw [if_pos (by omega), if_neg (by omega), if_neg (by omega), if_pos (by omega)]; exact e75.trans t1)⟩
      · skip
        refine zs_tabIn (pc := 22) (tgt := 77) C 3 dX9_sack_22 h22 (by decide) rfl (by decide) ?_
        refine zs_aload_n (pc := 77) C dX9_sack_77 rfl ?_
        refine zs_getf (pc := 78) C dX9_sack_78 w_X9_127 f_10_65 (by decide) ?_
        refine zs_iload_n (pc := 81) C dX9_sack_81 rfl ?_
        refine zs_iald (r := 2094) (pc := 82) C dX9_sack_82 a_94 (by decide) (by omega) rfl (r_2094 _) (fun v82 e82 l82 u82 => ?_)
        try simp only [zuI_1, zuI_2, zuJ_1, zuJ_2, zuJ_3, zuP_1, zuP_2, zuP_3, zuC_1, zuC_2, reduceIte, Nat.reduceEqDiff, false_and, and_false, true_and, and_true, and_self, or_true, true_or, or_false, false_or] at e82
        exact zs_iret (pc := 83) C hr hlk dX9_sack_83 ⟨by repeat (first | exact zsm_rf | assumption | refine zsm_C (by decide) ?_ | refine zsm_I (by decide) ?_ | refine zsm_J ?_ | refine zsm_c (by assumption) (by decide) ?_), (by with_reducible repeat (first | exact RO_rf | assumption | refine RO_0 (by decide) ?_ | refine RO_n 20 (by decide) (by omega) ?_ | refine RO_n 5 (by decide) (by omega) ?_ | refine RO_n 60 (by decide) (by omega) ?_ | refine RO_n 1 (by decide) (by omega) ?_ | refine RO_J (by decide) ?_ | refine RO_c (by assumption) ?_)), (by rw [if_pos (by omega), if_neg (by omega), if_neg (by omega), if_neg (by omega), if_pos (by omega)]; exact e82.trans t2)⟩
      · skip
        refine zs_tabIn (pc := 22) (tgt := 84) C 4 dX9_sack_22 h22 (by decide) rfl (by decide) ?_
        refine zs_aload_n (pc := 84) C dX9_sack_84 rfl ?_
        refine zs_getf (pc := 85) C dX9_sack_85 w_X9_130 f_10_66 (by decide) ?_
        refine zs_iload_n (pc := 88) C dX9_sack_88 rfl ?_
        refine zs_iald (r := 2095) (pc := 89) C dX9_sack_89 a_95 (by decide) (by omega) rfl (r_2095 _) (fun v89 e89 l89 u89 => ?_)
        try simp only [zuI_1, zuI_2, zuJ_1, zuJ_2, zuJ_3, zuP_1, zuP_2, zuP_3, zuC_1, zuC_2, reduceIte, Nat.reduceEqDiff, false_and, and_false, true_and, and_true, and_self, or_true, true_or, or_false, false_or] at e89
        exact zs_iret (pc := 90) C hr hlk dX9_sack_90 ⟨by repeat (first | exact zsm_rf | assumption | refine zsm_C (by decide) ?_ | refine zsm_I (by decide) ?_ | refine zsm_J ?_ | refine zsm_c (by assumption) (by decide) ?_), (by with_reducible repeat (first | exact RO_rf | assumption | refine RO_0 (by decide) ?_ | refine RO_n 20 (by decide) (by omega) ?_ | refine RO_n 5 (by decide) (by omega) ?_ | refine RO_n 60 (by decide) (by omega) ?_ | refine RO_n 1 (by decide) (by omega) ?_ | refine RO_J (by decide) ?_ | refine RO_c (by assumption) ?_)), (by rw [if_pos (by omega), if_neg (by omega), if_neg (by omega), if_neg (by omega), if_neg (by omega), if_pos (by omega)]; exact e89.trans s3)⟩
      · skip
        refine zs_tabOut (tgt := 91) (pc := 22) C dX9_sack_22 h22 (by decide) ?_
        refine zs_iconst (pc := 91) C dX9_sack_91 (by decide) ?_
        exact zs_iret (pc := 92) C hr hlk dX9_sack_92 ⟨by repeat (first | exact zsm_rf | assumption | refine zsm_C (by decide) ?_ | refine zsm_I (by decide) ?_ | refine zsm_J ?_ | refine zsm_c (by assumption) (by decide) ?_), (by with_reducible repeat (first | exact RO_rf | assumption | refine RO_0 (by decide) ?_ | refine RO_n 20 (by decide) (by omega) ?_ | refine RO_n 5 (by decide) (by omega) ?_ | refine RO_n 60 (by decide) (by omega) ?_ | refine RO_n 1 (by decide) (by omega) ?_ | refine RO_J (by decide) ?_ | refine RO_c (by assumption) ?_)), (by rw [if_pos (by omega), if_neg (by omega), if_neg (by omega), if_neg (by omega), if_neg (by omega), if_neg (by omega)])⟩
    · skip
      refine zs_iconst (pc := 19) C dX9_sack_19 (by decide) ?_
      exact zs_iret (pc := 20) C hr hlk dX9_sack_20 ⟨by repeat (first | exact zsm_rf | assumption | refine zsm_C (by decide) ?_ | refine zsm_I (by decide) ?_ | refine zsm_J ?_ | refine zsm_c (by assumption) (by decide) ?_), (by with_reducible repeat (first | exact RO_rf | assumption | refine RO_0 (by decide) ?_ | refine RO_n 20 (by decide) (by omega) ?_ | refine RO_n 5 (by decide) (by omega) ?_ | refine RO_n 60 (by decide) (by omega) ?_ | refine RO_n 1 (by decide) (by omega) ?_ | refine RO_J (by decide) ?_ | refine RO_c (by assumption) ?_)), (by rw [if_neg (by omega)])⟩

set_option maxHeartbeats 4000000 in
set_option maxRecDepth 100000 in
theorem c_X9_liesW {l : Launch} {Γ : zΓ} {G : zH} {w : Nat} {a p k : Int} {A W : aS}  (hX : zXs Γ) (hR : rW Γ w 0 W G) (hK : kR Γ w A G) (hW : WI A W) (hT : TA A)  : zMet l Γ yX9_lies cX9_lies 9 (some .int) 3 [zr 10 w, zi a, zi p, zi k] G (zpi (fun x G' => zsm [1002] G G' ∧ (((0 ≤ a ∧ (0 ≤ p ∧ p < A 4 1) ∧ 1 ≤ k ∧ k ≤ 40) → x = (wLies A p k.toNat (up W 21 0 a)).1) ∧ (¬ (0 ≤ a ∧ (0 ≤ p ∧ p < A 4 1) ∧ 1 ≤ k ∧ k ≤ 40) → x = -1) ∧ zsj [1061] G G' ∧ G'.2.1 1061 w 0 = G.2.1 1061 w 0))) := by
  refine zMet_of RX9 hX (by decide) rfl (Nat.le_of_ble_eq_true rfl) ?_
  intro px9 e s m args below meth c C hr hlk
  show Z px9 l e (zrm 3) s m args below meth c Γ 9 0 0 (MQ below (zQc Γ (zpi (fun x G' => zsm [1002] G G' ∧ (((0 ≤ a ∧ (0 ≤ p ∧ p < A 4 1) ∧ 1 ≤ k ∧ k ≤ 40) → x = (wLies A p k.toNat (up W 21 0 a)).1) ∧ (¬ (0 ≤ a ∧ (0 ≤ p ∧ p < A 4 1) ∧ 1 ≤ k ∧ k ≤ 40) → x = -1) ∧ zsj [1061] G G' ∧ G'.2.1 1061 w 0 = G.2.1 1061 w 0)))) args s 0 0 (zA Γ)) 0 [some (zr 10 w), some (zi a), some (zi p), some (zi k), none, none, none, none, none] [] G
  refine zs_loc 1 rfl (fun ha1 hb1 => ?_)
  refine zs_loc 2 rfl (fun ha2 hb2 => ?_)
  refine zs_loc 3 rfl (fun ha3 hb3 => ?_)
  have hT0 := hT.1
  refine zs_aload_n (pc := 0) C dX9_lies_0 rfl ?_
  refine zs_iconst (pc := 1) C dX9_lies_1 (by decide) ?_
  refine zs_puti (r := 1002) (pc := 2) C dX9_lies_2 w_X9_178 f_10_2 rfl (r_1002 0) (by omega) ?_
  refine zs_iload_n (pc := 5) C dX9_lies_5 rfl ?_
  refine zs_if_lt (tgt := 27) (pc := 6) C dX9_lies_6 (by decide) (fun h6 => ?_) (fun h6 => ?_)
  · skip
    have hno : ¬ (0 ≤ a ∧ (0 ≤ p ∧ p < A 4 1) ∧ 1 ≤ k ∧ k ≤ 40) := fun z => by first | omega | (have q1 := hq11.2.mpr z.2.1; first | omega | (have q2 := hq21.2.mpr ⟨z.2.2.1, z.2.2.2⟩; omega))
    refine zs_iconst (pc := 27) C dX9_lies_27 (by decide) ?_
    exact zs_iret (pc := 28) C hr hlk dX9_lies_28 ⟨by repeat (first | exact zsm_rf | assumption | refine zsm_C (by decide) ?_ | refine zsm_I (by decide) ?_ | refine zsm_J ?_ | refine zsm_c (by assumption) (by decide) ?_), ⟨fun q => absurd q hno, fun _ => rfl, zsj_rf, rfl⟩⟩
  · skip
    refine zs_aload_n (pc := 9) C dX9_lies_9 rfl ?_
    refine zs_iload_n (pc := 10) C dX9_lies_10 rfl ?_
    refine zVip1 (pc := 11) C dX9_lies_11 v_X9_398 (c_X9_isPersonW (A := A) hX (by repeat (first | assumption | refine kR_sm (by assumption) (by decide) ?_ | refine kR_I (by decide) ?_ | refine kR_J ?_))) (by decide) (by decide) ⟨Nat.zero_le _, Nat.zero_le _⟩ (Nat.le_of_ble_eq_true rfl) (fun x11 l11 u11 hp11 => ?_)
    have hq11 := hp11
    try simp only [zuI_1, zuI_2, zuJ_1, zuJ_2, zuJ_3, zuP_1, zuP_2, zuP_3, zuC_1, zuC_2, reduceIte, Nat.reduceEqDiff, false_and, and_false, true_and, and_true, and_self, or_true, true_or, or_false, false_or] at hq11
    refine zs_if_eq (tgt := 27) (pc := 14) C dX9_lies_14 (by decide) (fun h14 => ?_) (fun h14 => ?_)
    · skip
      have hno : ¬ (0 ≤ a ∧ (0 ≤ p ∧ p < A 4 1) ∧ 1 ≤ k ∧ k ≤ 40) := fun z => by first | omega | (have q1 := hq11.2.mpr z.2.1; first | omega | (have q2 := hq21.2.mpr ⟨z.2.2.1, z.2.2.2⟩; omega))
      refine zs_iconst (pc := 27) C dX9_lies_27 (by decide) ?_
      exact zs_iret (pc := 28) C hr hlk dX9_lies_28 ⟨by repeat (first | exact zsm_rf | assumption | refine zsm_C (by decide) ?_ | refine zsm_I (by decide) ?_ | refine zsm_J ?_ | refine zsm_c (by assumption) (by decide) ?_), ⟨fun q => absurd q hno, fun _ => rfl, zsj_rf, rfl⟩⟩
    · skip
      refine zs_iload_n (pc := 17) C dX9_lies_17 rfl ?_
      refine zs_iconst (pc := 18) C dX9_lies_18 (by decide) ?_
      refine zs_bipush (pc := 19) C dX9_lies_19 (by decide) (by decide) ?_
      refine zSip3 (pc := 21) C dX9_lies_21 s_X9_223 (c_X9_isIn hX ) (by decide) ⟨Nat.zero_le _, Nat.zero_le _⟩ (Nat.le_of_ble_eq_true rfl) (fun x21 l21 u21 hp21 => ?_)
      have hq21 := hp21
      try simp only [zuI_1, zuI_2, zuJ_1, zuJ_2, zuJ_3, zuP_1, zuP_2, zuP_3, zuC_1, zuC_2, reduceIte, Nat.reduceEqDiff, false_and, and_false, true_and, and_true, and_self, or_true, true_or, or_false, false_or] at hq21
      refine zs_if_ne (tgt := 29) (pc := 24) C dX9_lies_24 (by decide) (fun h24 => ?_) (fun h24 => ?_)
      · skip
        have hyp := hq11.2.mp (by omega)
        have hk40 := hq21.2.mp (by omega)
        have hok : (0 ≤ a ∧ (0 ≤ p ∧ p < A 4 1) ∧ 1 ≤ k ∧ k ≤ 40) := ⟨by omega, hyp, hk40.1, hk40.2⟩
        refine zs_aload_n (pc := 29) C dX9_lies_29 rfl ?_
        refine zs_getj (r := 1061) (pc := 30) C dX9_lies_30 w_X9_375 f_10_61 rfl (fun v30 e30 l30 u30 => ?_)
        try simp only [zuI_1, zuI_2, zuJ_1, zuJ_2, zuJ_3, zuP_1, zuP_2, zuP_3, zuC_1, zuC_2, reduceIte, Nat.reduceEqDiff, false_and, and_false, true_and, and_true, and_self, or_true, true_or, or_false, false_or] at e30
        refine zs_lstore (pc := 33) C dX9_lies_33 (by decide) ?_
        dsimp only [zset, zclr, znone]
        refine zs_aload_n (pc := 35) C dX9_lies_35 rfl ?_
        refine zs_iload_n (pc := 36) C dX9_lies_36 rfl ?_
        refine zs_i2l (pc := 37) C dX9_lies_37 ?_
        refine zs_putj (r := 1061) (pc := 38) C dX9_lies_38 w_X9_375 f_10_61 rfl ?_
        refine zs_iconst (pc := 41) C dX9_lies_41 (by decide) ?_
        refine zs_istore (pc := 42) C dX9_lies_42 (by decide) ?_
        dsimp only [zset, zclr, znone]
        refine zs_iconst (pc := 44) C dX9_lies_44 (by decide) ?_
        refine zs_istore (pc := 45) C dX9_lies_45 (by decide) ?_
        dsimp only [zset, zclr, znone]
        have L47 : ∀ (nn : Nat) (x6 x7 : Int) (G1 : zH), (0 ≤ x7 ∧ x7 ≤ k) → (zsm [1002] G G1) → (x6 = (wLies A p x7.toNat (up W 21 0 a)).1) → (zsj [1061] G G1) → (rD w (wLies A p x7.toNat (up W 21 0 a)).2 G1) → (40 - x7).toNat < nn → Z px9 l e (zrm 3) s m args below meth c Γ 9 0 0 (MQ below (zQc Γ (zpi (fun x G' => zsm [1002] G G' ∧ (((0 ≤ a ∧ (0 ≤ p ∧ p < A 4 1) ∧ 1 ≤ k ∧ k ≤ 40) → x = (wLies A p k.toNat (up W 21 0 a)).1) ∧ (¬ (0 ≤ a ∧ (0 ≤ p ∧ p < A 4 1) ∧ 1 ≤ k ∧ k ≤ 40) → x = -1) ∧ zsj [1061] G G' ∧ G'.2.1 1061 w 0 = G.2.1 1061 w 0)))) args s 0 0 (zA Γ)) 47 [some (zr 10 w), some (zi a), some (zi p), some (zi k), some (zj v30), none, some (zi x6), some (zi x7), none] [] G1 := by
          intro nn
          induction nn with
          | zero => intro x6 x7 G1 h47_0 h47_1 h47_2 h47_3 h47_4 hm; exact absurd hm (Nat.not_lt_zero _)
          | succ nn ih47 =>
            intro x6 x7 G1 h47_0 h47_1 h47_2 h47_3 h47_4 hm47
            refine zs_iload (pc := 47) C dX9_lies_47 rfl ?_
            refine zs_iload_n (pc := 49) C dX9_lies_49 rfl ?_
            refine zs_icmp_ge (tgt := 92) (pc := 50) C dX9_lies_50 (by decide) (fun h50 => ?_) (fun h50 => ?_)
            · skip
              have hx7 : x7 = k := by omega
              rw [hx7] at h47_2
              refine zs_aload_n (pc := 92) C dX9_lies_92 rfl ?_
              refine zs_lload (pc := 93) C dX9_lies_93 rfl ?_
              refine zs_putj (r := 1061) (pc := 95) C dX9_lies_95 w_X9_375 f_10_61 rfl ?_
              refine zs_iload (pc := 98) C dX9_lies_98 rfl ?_
              exact zs_iret (pc := 100) C hr hlk dX9_lies_100 ⟨by repeat (first | exact zsm_rf | assumption | refine zsm_C (by decide) ?_ | refine zsm_I (by decide) ?_ | refine zsm_J ?_ | refine zsm_c (by assumption) (by decide) ?_), ⟨fun _ => h47_2, fun q => absurd hok q, zsj_J (by decide) h47_3, (by rw [zuJ_2, if_pos ⟨rfl, rfl, rfl⟩]; exact e30)⟩⟩
            · skip
              have hWl := WI_lies (p := p) (WI_dr (Or.inl rfl) hW ⟨fun _ => ⟨hok.1, by omega⟩, fun q => absurd q (by decide)⟩ : WI A (up W 21 0 a)) x7.toNat
              have hls := wLies_s (A := A) (W := (up W 21 0 a)) (p := p) (k := x7) (by omega)
              have hli := wLies_in (A := A) (W := (up W 21 0 a)) (p := p) x7.toNat
              have hR1 : rW Γ w 0 (wLies A p x7.toNat (up W 21 0 a)).2 G1 := rW_21 (fun f j hf => (wLies_0 hf x7.toNat).trans (up_f hf)) (by repeat (first | assumption | refine rW_sm (by assumption) (by decide) ?_ | refine rW_I (by decide) ?_ | refine rW_J ?_))
              have hK1 : kR Γ w A G1 := (by repeat (first | assumption | refine kR_sm (by assumption) (by decide) ?_ | refine kR_I (by decide) ?_ | refine kR_J ?_))
              refine zs_aload_n (pc := 53) C dX9_lies_53 rfl ?_
              refine zs_iload_n (pc := 54) C dX9_lies_54 rfl ?_
              refine zVi1 (pc := 55) C dX9_lies_55 v_X9_462 (c_X9_askedW (W := (wLies A p x7.toNat (up W 21 0 a)).2) hX (by omega) hR1 hK1 hWl hT (by omega) h47_4) (by decide) (by decide) ⟨Nat.zero_le _, Nat.zero_le _⟩ (Nat.le_of_ble_eq_true rfl) (fun x55 G55 l55 u55 hp55 => ?_)
              obtain ⟨hz55, hq55⟩ := hp55
              obtain ⟨x559, b55, c55, hD55, j55⟩ := hq55
              have hL55 : rL Γ w 0 (wLies A p x7.toNat (up W 21 0 a)).2 G55 := rL_sm hz55 (by decide) hR1.1
              have hwi := wAskV_in (A := A) (W := (wLies A p x7.toNat (up W 21 0 a)).2) (p := p) (by omega)
              subst x559
              refine zs_istore (pc := 58) C dX9_lies_58 (by decide) ?_
              dsimp only [zset, zclr, znone]
              refine zs_iload (pc := 60) C dX9_lies_60 rfl ?_
              have J83 : ∀ (y1 : Int), (y1 = (if wAskV A (wLies A p x7.toNat (up W 21 0 a)).2 p ≠ -1 ∧ wL (wLies A p x7.toNat (up W 21 0 a)).2 p (wAskV A (wLies A p x7.toNat (up W 21 0 a)).2 p) = 0 then 1 else 0)) → Z px9 l e (zrm 3) s m args below meth c Γ 9 0 0 (MQ below (zQc Γ (zpi (fun x G' => zsm [1002] G G' ∧ (((0 ≤ a ∧ (0 ≤ p ∧ p < A 4 1) ∧ 1 ≤ k ∧ k ≤ 40) → x = (wLies A p k.toNat (up W 21 0 a)).1) ∧ (¬ (0 ≤ a ∧ (0 ≤ p ∧ p < A 4 1) ∧ 1 ≤ k ∧ k ≤ 40) → x = -1) ∧ zsj [1061] G G' ∧ G'.2.1 1061 w 0 = G.2.1 1061 w 0)))) args s 0 0 (zA Γ)) 83 [some (zr 10 w), some (zi a), some (zi p), some (zi k), some (zj v30), none, some (zi x6), some (zi x7), some (zi (wAskV A (wLies A p x7.toNat (up W 21 0 a)).2 p))] [zi y1, zi x6] G55 := by
                intro y1 h83_0
                have hy1 : y1 = 0 ∨ y1 = 1 := by rw [h83_0]; split; exact Or.inr rfl; exact Or.inl rfl
                first | refine zs_iadd (pc := 83) C dX9_lies_83 (by omega) ?_ | refine zs_iaddF (pc := 83) C dX9_lies_83 (fun z83 hz831 hz832 => ?_)
                refine zs_istore (pc := 84) C dX9_lies_84 (by decide) ?_
                dsimp only [zset, zclr, znone]
                first | refine zs_iinc (pc := 86) C dX9_lies_86 rfl (by decide) (by omega) ?_ | refine zs_iincF (pc := 86) C dX9_lies_86 rfl (by decide) (fun z86 hz861 hz862 => ?_)
                dsimp only [zset, zclr, znone]
                refine zs_goto (tgt := 47) (pc := 89) C dX9_lies_89 (by decide) ?_
                exact zs_wk (ih47 _ _ _ (by omega) (by repeat (first | exact zsm_rf | assumption | refine zsm_C (by decide) ?_ | refine zsm_I (by decide) ?_ | refine zsm_J ?_ | refine zsm_c (by assumption) (by decide) ?_)) (by rw [hls]; show _ = _ + _; rw [← h83_0]; omega) (zsj_c j55 (by decide) h47_3) (by rw [hls]; exact hD55) (by first | omega | (simp only [zuI_1, zuI_2, zuJ_1, zuJ_2, zuJ_3, zuP_1, zuP_2, zuP_3, zuC_1, zuC_2, reduceIte, Nat.reduceEqDiff, false_and, and_false, true_and, and_true, and_self, or_true, true_or, or_false, false_or]; omega))) (zwk_s rfl (zwk_s rfl (zwk_s rfl (zwk_s rfl (zwk_s rfl (zwk_n (zwk_s rfl (zwk_s rfl (zwk_n zwk_0)))))))))
              refine zs_iload (pc := 62) C dX9_lies_62 rfl ?_
              refine zs_if_lt (tgt := 82) (pc := 64) C dX9_lies_64 (by decide) (fun h64 => ?_) (fun h64 => ?_)
              · skip
                refine zs_iconst (pc := 82) C dX9_lies_82 (by decide) ?_
                exact zs_wk (J83 _ (by first | (rw [if_pos ⟨by omega, by omega⟩]) | (rw [if_neg (by rintro ⟨q1, q2⟩; omega)]))) (zwk_s rfl (zwk_s rfl (zwk_s rfl (zwk_s rfl (zwk_s rfl (zwk_n (zwk_s rfl (zwk_s rfl (zwk_s rfl zwk_0)))))))))
              · skip
                refine zs_aload_n (pc := 67) C dX9_lies_67 rfl ?_
                refine zs_iconst (pc := 68) C dX9_lies_68 (by decide) ?_
                refine zs_iload_n (pc := 69) C dX9_lies_69 rfl ?_
                refine zs_iload (pc := 70) C dX9_lies_70 rfl ?_
                refine zVip3 (pc := 72) C dX9_lies_72 v_X9_394 (c_X9_leftOfW hX (Or.inl rfl) (by omega) (by omega) hL55 (WI_WL hWl)) (by decide) (by decide) ⟨Nat.zero_le _, Nat.zero_le _⟩ (Nat.le_of_ble_eq_true rfl) (fun x72 l72 u72 hp72 => ?_)
                have hq72 := hp72
                refine zs_if_ne (tgt := 82) (pc := 75) C dX9_lies_75 (by decide) (fun h75 => ?_) (fun h75 => ?_)
                · skip
                  refine zs_iconst (pc := 82) C dX9_lies_82 (by decide) ?_
                  exact zs_wk (J83 _ (by first | (rw [if_pos ⟨by omega, by omega⟩]) | (rw [if_neg (by rintro ⟨q1, q2⟩; omega)]))) (zwk_s rfl (zwk_s rfl (zwk_s rfl (zwk_s rfl (zwk_s rfl (zwk_n (zwk_s rfl (zwk_s rfl (zwk_s rfl zwk_0)))))))))
                · skip
                  refine zs_iconst (pc := 78) C dX9_lies_78 (by decide) ?_
                  refine zs_goto (tgt := 83) (pc := 79) C dX9_lies_79 (by decide) ?_
                  exact zs_wk (J83 _ (by first | (rw [if_pos ⟨by omega, by omega⟩]) | (rw [if_neg (by rintro ⟨q1, q2⟩; omega)]))) (zwk_s rfl (zwk_s rfl (zwk_s rfl (zwk_s rfl (zwk_s rfl (zwk_n (zwk_s rfl (zwk_s rfl (zwk_s rfl zwk_0)))))))))
        exact zs_wk (L47 _ _ _ _ (by omega) (by repeat (first | exact zsm_rf | assumption | refine zsm_C (by decide) ?_ | refine zsm_I (by decide) ?_ | refine zsm_J ?_ | refine zsm_c (by assumption) (by decide) ?_)) rfl (zsj_J (by decide) zsj_rf) (by show (zuJ _ _ _ _ _).2.1 1061 w 0 = _; rw [zuJ_2, if_pos ⟨rfl, rfl, rfl⟩]; exact (up_eq (A := W) (f := 21) (j := 0) (v := a)).symm) (Nat.lt_succ_self _)) (zwk_s rfl (zwk_s rfl (zwk_s rfl (zwk_s rfl (zwk_s rfl (zwk_n (zwk_s rfl (zwk_s rfl (zwk_n zwk_0)))))))))
      · skip
        have hno : ¬ (0 ≤ a ∧ (0 ≤ p ∧ p < A 4 1) ∧ 1 ≤ k ∧ k ≤ 40) := fun z => by first | omega | (have q1 := hq11.2.mpr z.2.1; first | omega | (have q2 := hq21.2.mpr ⟨z.2.2.1, z.2.2.2⟩; omega))
        refine zs_iconst (pc := 27) C dX9_lies_27 (by decide) ?_
        exact zs_iret (pc := 28) C hr hlk dX9_lies_28 ⟨by repeat (first | exact zsm_rf | assumption | refine zsm_C (by decide) ?_ | refine zsm_I (by decide) ?_ | refine zsm_J ?_ | refine zsm_c (by assumption) (by decide) ?_), ⟨fun q => absurd q hno, fun _ => rfl, zsj_rf, rfl⟩⟩
