/-- a law that fits, as a number -/
noncomputable def wFI (A W : aS) (k : Int) : Int := @ite _ (wFt A W k (wKn W)) (Classical.propDecidable _) 1 0
theorem wFI_1 {A W : aS} {k : Int} : wFI A W k = 1 ↔ wFt A W k (wKn W) := by
  unfold wFI
  by_cases q : wFt A W k (wKn W)
  · rw [if_pos q]; exact ⟨fun _ => q, fun _ => rfl⟩
  · rw [if_neg q]; exact ⟨fun z => absurd z (by decide), fun z => absurd z q⟩
noncomputable def wFB (A W : aS) : Int := wBi (fun j => wFI A W (4 + (j : Int))) (A 4 3).toNat + (if wFI A W 0 = 1 then p2 (A 4 3).toNat else 0)
theorem wBi_s {P : Nat → Int} {k : Int} (h : 0 ≤ k) : wBi P (k + 1).toNat = wBi P k.toNat + (if P k.toNat = 1 then p2 k.toNat else 0) := by
  rw [show (k + 1).toNat = k.toNat + 1 by omega, wBi]
theorem wBi_in {P : Nat → Int} : ∀ m : Nat, m < 4 → 0 ≤ wBi P m ∧ wBi P m < p2 m
  | 0, _ => by show 0 ≤ (0 : Int) ∧ (0 : Int) < 1; decide
  | 1, _ => by
    rw [wBi, wBi]
    show 0 ≤ 0 + (if _ then (1 : Int) else 0) ∧ 0 + (if _ then (1 : Int) else 0) < 2
    split <;> omega
  | 2, _ => by
    rw [wBi, wBi, wBi]
    show 0 ≤ 0 + (if _ then (1 : Int) else 0) + (if _ then (2 : Int) else 0) ∧ 0 + (if _ then (1 : Int) else 0) + (if _ then (2 : Int) else 0) < 4
    (repeat' split) <;> omega
  | 3, _ => by
    rw [wBi, wBi, wBi, wBi]
    show 0 ≤ 0 + (if _ then (1 : Int) else 0) + (if _ then (2 : Int) else 0) + (if _ then (4 : Int) else 0) ∧ 0 + (if _ then (1 : Int) else 0) + (if _ then (2 : Int) else 0) + (if _ then (4 : Int) else 0) < 8
    (repeat' split) <;> omega
theorem wBi_f {A W : aS} {k : Int} (h : 0 ≤ k) : wBi (fun j => wFI A W (4 + (j : Int))) (k + 1).toNat = wBi (fun j => wFI A W (4 + (j : Int))) k.toNat + (if wFI A W (4 + k) = 1 then p2 k.toNat else 0) := by
  rw [wBi_s h]
  show _ + (if wFI A W (4 + ((k.toNat : Nat) : Int)) = 1 then _ else _) = _
  rw [show 4 + ((k.toNat : Nat) : Int) = 4 + k by omega]
theorem b1_n : ∀ v : Nat, v < 16 → ∀ s : Nat, s < 4 → band (bshr v s) 1 = 0 ∨ band (bshr v s) 1 = 1 := by decide +kernel
theorem b1_i {v s : Int} (hv : 0 ≤ v ∧ v ≤ 15) (hs : 0 ≤ s ∧ s ≤ 3) : band (bshr v s) 1 = 0 ∨ band (bshr v s) 1 = 1 := by
  have h := b1_n v.toNat (by omega) s.toNat (by omega)
  rwa [show ((v.toNat : Nat) : Int) = v by omega, show ((s.toNat : Nat) : Int) = s by omega] at h
theorem QQ_911 {Γ : zΓ} {w t a i : Nat} {A W : aS} {G : zH} {x : Int} (h : QQ Γ w t A W G) : QQ Γ w t A W (zuI G 911 a i x) := QQ_sm (rs := [911]) (zsm_I (by simp) zsm_rf) (by decide) (by decide +kernel) h
theorem wKn_in {A W : aS} (hW : WI A W) : 0 ≤ wKn W ∧ wKn W ≤ W 0 0 := by
  have h0 := hW.1
  have h22 := hW.2.2.2.2.2.2.2.2.2
  unfold wKn
  split <;> omega
theorem rQ_22 {Γ : zΓ} {w : Nat} {n v : Int} {W : aS} {G : zH} (h : rQ Γ w W G n) : rQ Γ w (up W 22 0 v) G n := by
  have e : ∀ f j, f ≠ 22 → (up W 22 0 v) f j = W f j := fun f j hf => up_f hf
  intro k hk
  have q := h k hk
  unfold wLie at *
  rw [e 1 k (by decide), e 2 k (by decide), e 6 k (by decide), e 7 k (by decide), e 8 k (by decide), e 9 k (by decide), e 10 k (by decide), e 10 _ (by decide)]
  exact q
/-- the same but for what lies elsewhere -/
def wEx (V W : aS) : Prop := ∀ f j : Nat, f < 23 → V f j = W f j
theorem wEx_rf {W : aS} : wEx W W := fun _ _ _ => rfl
theorem wEx_t {U V W : aS} (h1 : wEx U V) (h2 : wEx V W) : wEx U W := fun f j h => (h1 f j h).trans (h2 f j h)
theorem wEx_s {V W : aS} (h : wEx V W) : wEx W V := fun f j hf => (h f j hf).symm
theorem wEx_Q {V W : aS} (h : wEx V W) : wQ V W := ⟨h 0 0 (by decide), fun f k _ h2 _ => h f k (by omega), fun f j _ h2 => h f j (by omega), fun f _ h2 => h f 0 (by omega), fun c k _ _ _ => h 17 _ (by decide)⟩
theorem wEx_I {A V W : aS} (h : wEx V W) (hW : WI A W) : WI A V := WI_Q (wEx_Q h) hW (by rw [h 21 0 (by decide)]; exact hW.2.2.2.2.2.2.2.2.1) (by rw [h 22 0 (by decide)]; exact hW.2.2.2.2.2.2.2.2.2)
theorem wEx_7 {V W : aS} (h : wEx V W) (hW : W7 W) : W7 V := W7_of (fun j => h 17 j (by decide)) hW
theorem rS_ex {Γ : zΓ} {w : Nat} {V W : aS} {G : zH} (h : wEx V W) (hS : rS Γ w W G) : rS Γ w V G := rS_W (fun f j hf => h f j (by omega)) hS
theorem rW_ex {Γ : zΓ} {w : Nat} {b : Int} {V W : aS} {G : zH} (h : wEx V W) (hS : rW Γ w b W G) : rW Γ w b V G := rW_Q (wEx_Q (wEx_s h)) hS

set_option maxHeartbeats 4000000 in
set_option maxRecDepth 100000 in
theorem c_X8_fitsK {l : Launch} {Γ : zΓ} {G : zH} {w t : Nat} {A W : aS}  (hX : zXs Γ) (hZ : QQ Γ (Γ.2.1 w 4) t A W G) (hI : G.2.2 903 w = t) (hW : WI A W) (hT : TA A)  : zMet l Γ yX8_fits cX8_fits 4 (some .int) 5 [zr 9 w] G (zpi (fun x G' => zsm [] G G' ∧ (x = wFB A W))) := by
  refine zMet_of RX8 hX (by decide) rfl (Nat.le_of_ble_eq_true rfl) ?_
  intro p e s m args below meth c C hr hlk
  show Z p l e (zrm 5) s m args below meth c Γ 4 0 0 (MQ below (zQc Γ (zpi (fun x G' => zsm [] G G' ∧ (x = wFB A W)))) args s 0 0 (zA Γ)) 0 [some (zr 9 w), none, none, none] [] G
  have hT0 := hT.1
  refine zs_aload_n (pc := 0) C dX8_fits_0 rfl ?_
  refine zs_getd (r := 903) (pc := 1) C dX8_fits_1 w_X8_25 f_9_3 (by decide) rfl (fun v1 e1 t1 => ?_)
  rw [hI] at e1
  subst v1
  refine zs_getf (pc := 4) C dX8_fits_4 w_X8_262 f_6_2 (by decide) ?_
  refine zs_iconst (pc := 7) C dX8_fits_7 (by decide) ?_
  refine zs_iald (r := 2037) (pc := 8) C dX8_fits_8 a_37 (by decide) (by omega) rfl rfl (fun v8 e8 l8 u8 => ?_)
  try simp only [QQ_2037 hZ, Int.reduceToNat] at e8
  try subst v8
  refine zs_istore_n (pc := 9) C dX8_fits_9 (by decide) ?_
  dsimp only [zset, zclr, znone]
  refine zs_iconst (pc := 10) C dX8_fits_10 (by decide) ?_
  refine zs_istore_n (pc := 11) C dX8_fits_11 (by decide) ?_
  dsimp only [zset, zclr, znone]
  refine zs_iconst (pc := 12) C dX8_fits_12 (by decide) ?_
  refine zs_istore_n (pc := 13) C dX8_fits_13 (by decide) ?_
  dsimp only [zset, zclr, znone]
  have L14 : ∀ (nn : Nat) (x2 x3 : Int) (G1 : zH), (0 ≤ x3 ∧ x3 ≤ A 4 3) → (x2 = wBi (fun j => wFI A W (4 + (j : Int))) x3.toNat) → (zsm [] G G1) → (4 - x3).toNat < nn → Z p l e (zrm 5) s m args below meth c Γ 4 0 0 (MQ below (zQc Γ (zpi (fun x G' => zsm [] G G' ∧ (x = wFB A W)))) args s 0 0 (zA Γ)) 14 [some (zr 9 w), some (zi (A 4 3)), some (zi x2), some (zi x3)] [] G1 := by
    intro nn
    induction nn with
    | zero => intro x2 x3 G1 h14_0 h14_1 h14_2 hm; exact absurd hm (Nat.not_lt_zero _)
    | succ nn ih14 =>
      intro x2 x3 G1 h14_0 h14_1 h14_2 hm14
      have hZ1 := QQ_n h14_2 hZ
      refine zs_iload_n (pc := 14) C dX8_fits_14 rfl ?_
      refine zs_iload_n (pc := 15) C dX8_fits_15 rfl ?_
      refine zs_icmp_ge (tgt := 48) (pc := 16) C dX8_fits_16 (by decide) (fun h16 => ?_) (fun h16 => ?_)
      · skip
        have hx3 : x3 = A 4 3 := by omega
        rw [hx3] at h14_1
        have hb := bor_i (k := A 4 3) (x := x2) (by omega) (by have q := wBi_in (P := (fun j => wFI A W (4 + (j : Int)))) (A 4 3).toNat (by omega); omega)
        refine zs_aload_n (pc := 48) C dX8_fits_48 rfl ?_
        refine zs_getf (pc := 49) C dX8_fits_49 w_X8_34 f_9_4 (by decide) ?_
        refine zs_iconst (pc := 52) C dX8_fits_52 (by decide) ?_
        refine zVi1 (pc := 53) C dX8_fits_53 v_X8_322 (c_X7_isFittingK hX hZ1 hW hT (by decide)) (by decide) (by decide) ⟨Nat.zero_le _, Nat.zero_le _⟩ (Nat.le_of_ble_eq_true rfl) (fun x53 G53 l53 u53 hp53 => ?_)
        obtain ⟨hz53, hq53⟩ := hp53
        first | have hZ53 := QQ_n hz53 hZ | have hZ53 := QQ_n hz53 hZ1
        refine zs_if_eq (tgt := 67) (pc := 56) C dX8_fits_56 (by decide) (fun h56 => ?_) (fun h56 => ?_)
        · skip
          refine zs_iload_n (pc := 67) C dX8_fits_67 rfl ?_
          exact zs_iret (pc := 68) C hr hlk dX8_fits_68 ⟨by repeat (first | exact zsm_rf | assumption | refine zsm_C (by decide) ?_ | refine zsm_I (by decide) ?_ | refine zsm_J ?_ | refine zsm_c (by assumption) (by decide) ?_), (by unfold wFB; first | (rw [if_pos (wFI_1.mpr (hq53.2.mp (by omega))), ez63, ez62]; omega) | (rw [if_neg (fun q => by have := hq53.2.mpr (wFI_1.mp q); omega)]; omega))⟩
        · skip
          refine zs_iload_n (pc := 59) C dX8_fits_59 rfl ?_
          refine zs_iconst (pc := 60) C dX8_fits_60 (by decide) ?_
          refine zs_iload_n (pc := 61) C dX8_fits_61 rfl ?_
          refine zs_ishlX (pc := 62) C dX8_fits_62 (fun z62 ez62 hz621 hz622 => ?_)
          refine zs_iorX (pc := 63) C dX8_fits_63 (fun z63 ez63 hz631 hz632 => ?_)
          refine zs_goto (tgt := 68) (pc := 64) C dX8_fits_64 (by decide) ?_
          exact zs_iret (pc := 68) C hr hlk dX8_fits_68 ⟨by repeat (first | exact zsm_rf | assumption | refine zsm_C (by decide) ?_ | refine zsm_I (by decide) ?_ | refine zsm_J ?_ | refine zsm_c (by assumption) (by decide) ?_), (by unfold wFB; first | (rw [if_pos (wFI_1.mpr (hq53.2.mp (by omega))), ez63, ez62]; omega) | (rw [if_neg (fun q => by have := hq53.2.mpr (wFI_1.mp q); omega)]; omega))⟩
      · skip
        have hs := wBi_f (A := A) (W := W) (k := x3) (by omega)
        have hb := bor_i (k := x3) (x := x2) (by omega) (by have q := wBi_in (P := (fun j => wFI A W (4 + (j : Int)))) x3.toNat (by omega); omega)
        refine zs_iload_n (pc := 19) C dX8_fits_19 rfl ?_
        refine zs_aload_n (pc := 20) C dX8_fits_20 rfl ?_
        refine zs_getf (pc := 21) C dX8_fits_21 w_X8_34 f_9_4 (by decide) ?_
        refine zs_iconst (pc := 24) C dX8_fits_24 (by decide) ?_
        refine zs_iload_n (pc := 25) C dX8_fits_25 rfl ?_
        first | refine zs_iadd (pc := 26) C dX8_fits_26 (by omega) ?_ | refine zs_iaddF (pc := 26) C dX8_fits_26 (fun z26 hz261 hz262 => ?_)
        refine zVi1 (pc := 27) C dX8_fits_27 v_X8_322 (c_X7_isFittingK hX hZ1 hW hT (by omega)) (by decide) (by decide) ⟨Nat.zero_le _, Nat.zero_le _⟩ (Nat.le_of_ble_eq_true rfl) (fun x27 G27 l27 u27 hp27 => ?_)
        obtain ⟨hz27, hq27⟩ := hp27
        first | have hZ27 := QQ_n hz27 hZ | have hZ27 := QQ_n hz27 hZ1
        refine zs_if_eq (tgt := 39) (pc := 30) C dX8_fits_30 (by decide) (fun h30 => ?_) (fun h30 => ?_)
        · skip
          rw [if_neg (fun q => by have := hq27.2.mpr (wFI_1.mp q); omega)] at hs
          refine zs_iconst (pc := 39) C dX8_fits_39 (by decide) ?_
          refine zs_iorX (pc := 40) C dX8_fits_40 (fun z40 ez40 hz401 hz402 => ?_)
          have hz40 : z40 = wBi (fun j => wFI A W (4 + (j : Int))) (x3 + 1).toNat := by rw [ez40]; first | (rw [ez35]; omega) | omega
          refine zs_istore_n (pc := 41) C dX8_fits_41 (by decide) ?_
          dsimp only [zset, zclr, znone]
          first | refine zs_iinc (pc := 42) C dX8_fits_42 rfl (by decide) (by omega) ?_ | refine zs_iincF (pc := 42) C dX8_fits_42 rfl (by decide) (fun z42 hz421 hz422 => ?_)
          dsimp only [zset, zclr, znone]
          refine zs_goto (tgt := 14) (pc := 45) C dX8_fits_45 (by decide) ?_
          exact zs_wk (ih14 _ _ _ (by omega) hz40 (by repeat (first | exact zsm_rf | assumption | refine zsm_C (by decide) ?_ | refine zsm_I (by decide) ?_ | refine zsm_J ?_ | refine zsm_c (by assumption) (by decide) ?_)) (by first | omega | (simp only [zuI_1, zuI_2, zuJ_1, zuJ_2, zuJ_3, zuP_1, zuP_2, zuP_3, zuC_1, zuC_2, reduceIte, Nat.reduceEqDiff, false_and, and_false, true_and, and_true, and_self, or_true, true_or, or_false, false_or]; omega))) (zwk_s rfl (zwk_s rfl (zwk_s rfl (zwk_s rfl zwk_0))))
        · skip
          rw [if_pos (wFI_1.mpr (hq27.2.mp (by omega)))] at hs
          refine zs_iconst (pc := 33) C dX8_fits_33 (by decide) ?_
          refine zs_iload_n (pc := 34) C dX8_fits_34 rfl ?_
          refine zs_ishlX (pc := 35) C dX8_fits_35 (fun z35 ez35 hz351 hz352 => ?_)
          refine zs_goto (tgt := 40) (pc := 36) C dX8_fits_36 (by decide) ?_
          refine zs_iorX (pc := 40) C dX8_fits_40 (fun z40 ez40 hz401 hz402 => ?_)
          have hz40 : z40 = wBi (fun j => wFI A W (4 + (j : Int))) (x3 + 1).toNat := by rw [ez40]; first | (rw [ez35]; omega) | omega
          refine zs_istore_n (pc := 41) C dX8_fits_41 (by decide) ?_
          dsimp only [zset, zclr, znone]
          first | refine zs_iinc (pc := 42) C dX8_fits_42 rfl (by decide) (by omega) ?_ | refine zs_iincF (pc := 42) C dX8_fits_42 rfl (by decide) (fun z42 hz421 hz422 => ?_)
          dsimp only [zset, zclr, znone]
          refine zs_goto (tgt := 14) (pc := 45) C dX8_fits_45 (by decide) ?_
          exact zs_wk (ih14 _ _ _ (by omega) hz40 (by repeat (first | exact zsm_rf | assumption | refine zsm_C (by decide) ?_ | refine zsm_I (by decide) ?_ | refine zsm_J ?_ | refine zsm_c (by assumption) (by decide) ?_)) (by first | omega | (simp only [zuI_1, zuI_2, zuJ_1, zuJ_2, zuJ_3, zuP_1, zuP_2, zuP_3, zuC_1, zuC_2, reduceIte, Nat.reduceEqDiff, false_and, and_false, true_and, and_true, and_self, or_true, true_or, or_false, false_or]; omega))) (zwk_s rfl (zwk_s rfl (zwk_s rfl (zwk_s rfl zwk_0))))
  exact zs_wk (L14 _ _ _ _ (by omega) rfl zsm_rf (Nat.lt_succ_self _)) (zwk_s rfl (zwk_s rfl (zwk_s rfl (zwk_s rfl zwk_0))))

set_option maxHeartbeats 4000000 in
set_option maxRecDepth 100000 in
theorem c_X8_undoK {l : Launch} {Γ : zΓ} {G : zH} {w t : Nat} {A W : aS}  (hX : zXs Γ) (hZ : QQ Γ (Γ.2.1 w 4) t A W G) (hI : G.2.2 903 w = t) (hW : WI A W) (hT : TA A) (h7 : W7 W) (h20 : G.1 910 w 0 ≤ 20) (hok : 0 < G.1 910 w 0 → wOK W ((G.1 2056 (Γ.2.1 w 9)) (G.1 910 w 0 - 1).toNat))  : zMet l Γ yX8_undo cX8_undo 2 (some .int) 2 [zr 9 w] G (zpi (fun x G' => zsm [910, 2020, 2030, 2053, 2048, 2049, 2052, 510, 2026, 2027, 2028, 2029, 2031, 2032, 2033, 2034, 2035, 810, 811, 2050, 2051] G G' ∧ ((G.1 910 w 0 ≤ 0 → x = -1 ∧ QQ Γ (Γ.2.1 w 4) t A (W) G' ∧ G'.1 910 w 0 = G.1 910 w 0 ∧ (G'.1 2056 (Γ.2.1 w 9)) = (G.1 2056 (Γ.2.1 w 9))) ∧ (0 < G.1 910 w 0 → x = G.1 910 w 0 - 1 ∧ QQ Γ (Γ.2.1 w 4) t A (wUndo W ((G.1 2056 (Γ.2.1 w 9)) (G.1 910 w 0 - 1).toNat)) G' ∧ G'.1 910 w 0 = G.1 910 w 0 - 1 ∧ (G'.1 2056 (Γ.2.1 w 9)) = (G.1 2056 (Γ.2.1 w 9)))))) := by
  refine zMet_of RX8 hX (by decide) rfl (Nat.le_of_ble_eq_true rfl) ?_
  intro p e s m args below meth c C hr hlk
  show Z p l e (zrm 2) s m args below meth c Γ 2 0 0 (MQ below (zQc Γ (zpi (fun x G' => zsm [910, 2020, 2030, 2053, 2048, 2049, 2052, 510, 2026, 2027, 2028, 2029, 2031, 2032, 2033, 2034, 2035, 810, 811, 2050, 2051] G G' ∧ ((G.1 910 w 0 ≤ 0 → x = -1 ∧ QQ Γ (Γ.2.1 w 4) t A (W) G' ∧ G'.1 910 w 0 = G.1 910 w 0 ∧ (G'.1 2056 (Γ.2.1 w 9)) = (G.1 2056 (Γ.2.1 w 9))) ∧ (0 < G.1 910 w 0 → x = G.1 910 w 0 - 1 ∧ QQ Γ (Γ.2.1 w 4) t A (wUndo W ((G.1 2056 (Γ.2.1 w 9)) (G.1 910 w 0 - 1).toNat)) G' ∧ G'.1 910 w 0 = G.1 910 w 0 - 1 ∧ (G'.1 2056 (Γ.2.1 w 9)) = (G.1 2056 (Γ.2.1 w 9))))))) args s 0 0 (zA Γ)) 0 [some (zr 9 w), none] [] G
  refine zs_aload_n (pc := 0) C dX8_undo_0 rfl ?_
  refine zs_geti (r := 910) (pc := 1) C dX8_undo_1 w_X8_94 f_9_10 rfl (r_910 0) (fun v1 e1 l1 u1 => ?_)
  refine zs_if_gt (tgt := 9) (pc := 4) C dX8_undo_4 (by decide) (fun h4 => ?_) (fun h4 => ?_)
  · skip
    refine zs_aload_n (pc := 9) C dX8_undo_9 rfl ?_
    refine zs_dupa (pc := 10) C dX8_undo_10 ?_
    refine zs_geti (r := 910) (pc := 11) C dX8_undo_11 w_X8_94 f_9_10 rfl (r_910 0) (fun v11 e11 l11 u11 => ?_)
    refine zs_iconst (pc := 14) C dX8_undo_14 (by decide) ?_
    first | refine zs_isub (pc := 15) C dX8_undo_15 (by omega) ?_ | refine zs_isubF (pc := 15) C dX8_undo_15 (fun z15 hz151 hz152 => ?_)
    refine zs_puti (r := 910) (pc := 16) C dX8_undo_16 w_X8_94 f_9_10 rfl (r_910 0) (by omega) ?_
    refine zs_aload_n (pc := 19) C dX8_undo_19 rfl ?_
    refine zs_getf (pc := 20) C dX8_undo_20 w_X8_49 f_9_7 (by decide) ?_
    refine zVv0 (pc := 23) C dX8_undo_23 v_X8_97 (c_X2_forget hX ) (by decide) (by decide) ⟨Nat.zero_le _, Nat.zero_le _⟩ (Nat.le_of_ble_eq_true rfl) (fun G23 hp23 => ?_)
    obtain ⟨hz23, hq23⟩ := hp23
    try simp only [zuI_1, zuI_2, zuJ_1, zuJ_2, zuJ_3, zuP_1, zuP_2, zuP_3, zuC_1, zuC_2, reduceIte, Nat.reduceEqDiff, false_and, and_false, true_and, and_true, and_self, or_true, true_or, or_false, false_or] at hq23
    have hZ23 := QQ_sm hz23 (by decide) (by decide +kernel) (QQ_910 hZ)
    have t910 := zsm_at hz23 910 w 0 (by decide)
    try simp only [zuI_1, zuI_2, zuJ_1, zuJ_2, zuJ_3, zuP_1, zuP_2, zuP_3, zuC_1, zuC_2, reduceIte, Nat.reduceEqDiff, false_and, and_false, true_and, and_true, and_self, or_true, true_or, or_false, false_or] at t910
    refine zs_aload_n (pc := 26) C dX8_undo_26 rfl ?_
    refine zs_getf (pc := 27) C dX8_undo_27 w_X8_60 f_9_9 (by decide) ?_
    refine zs_aload_n (pc := 30) C dX8_undo_30 rfl ?_
    refine zs_geti (r := 910) (pc := 31) C dX8_undo_31 w_X8_94 f_9_10 rfl (r_910 0) (fun v31 e31 l31 u31 => ?_)
    refine zs_iald (r := 2056) (pc := 34) C dX8_undo_34 a_56 (by decide) (by omega) rfl (r_2056 _) (fun v34 e34 l34 u34 => ?_)
    have hoq := hok (by omega)
    have y34 : v34 = ((G.1 2056 (Γ.2.1 w 9)) (G.1 910 w 0 - 1).toNat) := by rw [e34, hz23.1 2056 (by decide), show v31 = G.1 910 w 0 - 1 by omega]; simp only [zuI_1, zuI_2, zuJ_1, zuJ_2, zuJ_3, zuP_1, zuP_2, zuP_3, zuC_1, zuC_2, reduceIte, Nat.reduceEqDiff, false_and, and_false, true_and, and_true, and_self, or_true, true_or, or_false, false_or]
    rw [← y34] at hoq
    have hor : v34 ≤ 25 ∧ (v34 = 0 ∨ 1 ≤ v34) := by rcases hoq with q | q | q <;> omega
    refine zs_istore_n (pc := 35) C dX8_undo_35 (by decide) ?_
    dsimp only [zset, zclr, znone]
    refine zs_iload_n (pc := 36) C dX8_undo_36 rfl ?_
    refine zs_bipush (pc := 37) C dX8_undo_37 (by decide) (by decide) ?_
    refine zs_icmp_lt (tgt := 56) (pc := 39) C dX8_undo_39 (by decide) (fun h39 => ?_) (fun h39 => ?_)
    · skip
      refine zs_iload_n (pc := 56) C dX8_undo_56 rfl ?_
      refine zs_iconst (pc := 57) C dX8_undo_57 (by decide) ?_
      refine zs_icmp_lt (tgt := 81) (pc := 58) C dX8_undo_58 (by decide) (fun h58 => ?_) (fun h58 => ?_)
      · skip
        refine zs_aload_n (pc := 81) C dX8_undo_81 rfl ?_
        refine zs_getf (pc := 82) C dX8_undo_82 w_X8_34 f_9_4 (by decide) ?_
        refine zVv0 (pc := 85) C dX8_undo_85 v_X8_331 (c_X7_ungrindK hX hZ23 hW hT) (by decide) (by decide) ⟨Nat.zero_le _, Nat.zero_le _⟩ (Nat.le_of_ble_eq_true rfl) (fun G85 hp85 => ?_)
        obtain ⟨hz85, hq85⟩ := hp85
        have hZ85 := hq85
        refine zs_aload_n (pc := 88) C dX8_undo_88 rfl ?_
        refine zs_geti (r := 910) (pc := 89) C dX8_undo_89 w_X8_94 f_9_10 rfl (r_910 0) (fun v89 e89 l89 u89 => ?_)
        exact zs_iret (pc := 92) C hr hlk dX8_undo_92 (by
            have t9 : (0 : Int) = 0 := rfl
            first
            | (have t5 := zsm_at hz50 910 w 0 (by decide)
               exact ⟨by repeat (first | exact zsm_rf | assumption | refine zsm_C (by decide) ?_ | refine zsm_I (by decide) ?_ | refine zsm_J ?_ | refine zsm_c (by assumption) (by decide) ?_), ⟨fun z => absurd z (by omega), fun _ => ⟨by omega, (by unfold wUndo; rw [← y34, if_pos (by omega)]; exact hq50), by omega, by rw [hz50.1 2056 (by decide), hz23.1 2056 (by decide)]; rfl⟩⟩⟩)
            | (have t5 := zsm_at hz75 910 w 0 (by decide)
               exact ⟨by repeat (first | exact zsm_rf | assumption | refine zsm_C (by decide) ?_ | refine zsm_I (by decide) ?_ | refine zsm_J ?_ | refine zsm_c (by assumption) (by decide) ?_), ⟨fun z => absurd z (by omega), fun _ => ⟨by omega, (by unfold wUndo; rw [← y34, if_neg (by omega), if_pos (by omega)]; exact hq75), by omega, by rw [hz75.1 2056 (by decide), hz23.1 2056 (by decide)]; rfl⟩⟩⟩)
            | (have t5 := zsm_at hz85 910 w 0 (by decide)
               exact ⟨by repeat (first | exact zsm_rf | assumption | refine zsm_C (by decide) ?_ | refine zsm_I (by decide) ?_ | refine zsm_J ?_ | refine zsm_c (by assumption) (by decide) ?_), ⟨fun z => absurd z (by omega), fun _ => ⟨by omega, (by unfold wUndo; rw [← y34, if_neg (by omega), if_neg (by omega)]; exact hq85), by omega, by rw [hz85.1 2056 (by decide), hz23.1 2056 (by decide)]; rfl⟩⟩⟩))
      · skip
        refine zs_aload_n (pc := 61) C dX8_undo_61 rfl ?_
        refine zs_getf (pc := 62) C dX8_undo_62 w_X8_34 f_9_4 (by decide) ?_
        refine zs_iload_n (pc := 65) C dX8_undo_65 rfl ?_
        refine zs_iconst (pc := 66) C dX8_undo_66 (by decide) ?_
        first | refine zs_isub (pc := 67) C dX8_undo_67 (by omega) ?_ | refine zs_isubF (pc := 67) C dX8_undo_67 (fun z67 hz671 hz672 => ?_)
        refine zs_iconst (pc := 68) C dX8_undo_68 (by decide) ?_
        first | refine zs_idiv (pc := 69) C dX8_undo_69 (by omega) (by omega) (fun hz691 hz692 => ?_) | refine zs_idivF (pc := 69) C dX8_undo_69 (by omega) (fun z69 hz691 hz692 => ?_)
        refine zs_iload_n (pc := 70) C dX8_undo_70 rfl ?_
        refine zs_iconst (pc := 71) C dX8_undo_71 (by decide) ?_
        first | refine zs_isub (pc := 72) C dX8_undo_72 (by omega) ?_ | refine zs_isubF (pc := 72) C dX8_undo_72 (fun z72 hz721 hz722 => ?_)
        refine zs_iconst (pc := 73) C dX8_undo_73 (by decide) ?_
        first | refine zs_irem (pc := 74) C dX8_undo_74 (by omega) (by omega) (fun hz741 hz742 => ?_) | refine zs_iremF (pc := 74) C dX8_undo_74 (by omega) (fun z74 hz741 hz742 => ?_)
        refine zVv2 (pc := 75) C dX8_undo_75 v_X8_328 (c_X7_unfallK hX hZ23 hW (by omega) (by omega)) (by decide) (by decide) ⟨Nat.zero_le _, Nat.zero_le _⟩ (Nat.le_of_ble_eq_true rfl) (fun G75 hp75 => ?_)
        obtain ⟨hz75, hq75⟩ := hp75
        have hZ75 := hq75
        refine zs_goto (tgt := 88) (pc := 78) C dX8_undo_78 (by decide) ?_
        refine zs_aload_n (pc := 88) C dX8_undo_88 rfl ?_
        refine zs_geti (r := 910) (pc := 89) C dX8_undo_89 w_X8_94 f_9_10 rfl (r_910 0) (fun v89 e89 l89 u89 => ?_)
        exact zs_iret (pc := 92) C hr hlk dX8_undo_92 (by
            have t9 : (0 : Int) = 0 := rfl
            first
            | (have t5 := zsm_at hz50 910 w 0 (by decide)
               exact ⟨by repeat (first | exact zsm_rf | assumption | refine zsm_C (by decide) ?_ | refine zsm_I (by decide) ?_ | refine zsm_J ?_ | refine zsm_c (by assumption) (by decide) ?_), ⟨fun z => absurd z (by omega), fun _ => ⟨by omega, (by unfold wUndo; rw [← y34, if_pos (by omega)]; exact hq50), by omega, by rw [hz50.1 2056 (by decide), hz23.1 2056 (by decide)]; rfl⟩⟩⟩)
            | (have t5 := zsm_at hz75 910 w 0 (by decide)
               exact ⟨by repeat (first | exact zsm_rf | assumption | refine zsm_C (by decide) ?_ | refine zsm_I (by decide) ?_ | refine zsm_J ?_ | refine zsm_c (by assumption) (by decide) ?_), ⟨fun z => absurd z (by omega), fun _ => ⟨by omega, (by unfold wUndo; rw [← y34, if_neg (by omega), if_pos (by omega)]; exact hq75), by omega, by rw [hz75.1 2056 (by decide), hz23.1 2056 (by decide)]; rfl⟩⟩⟩)
            | (have t5 := zsm_at hz85 910 w 0 (by decide)
               exact ⟨by repeat (first | exact zsm_rf | assumption | refine zsm_C (by decide) ?_ | refine zsm_I (by decide) ?_ | refine zsm_J ?_ | refine zsm_c (by assumption) (by decide) ?_), ⟨fun z => absurd z (by omega), fun _ => ⟨by omega, (by unfold wUndo; rw [← y34, if_neg (by omega), if_neg (by omega)]; exact hq85), by omega, by rw [hz85.1 2056 (by decide), hz23.1 2056 (by decide)]; rfl⟩⟩⟩))
    · skip
      refine zs_aload_n (pc := 42) C dX8_undo_42 rfl ?_
      refine zs_getf (pc := 43) C dX8_undo_43 w_X8_34 f_9_4 (by decide) ?_
      refine zs_iload_n (pc := 46) C dX8_undo_46 rfl ?_
      refine zs_bipush (pc := 47) C dX8_undo_47 (by decide) (by decide) ?_
      first | refine zs_isub (pc := 49) C dX8_undo_49 (by omega) ?_ | refine zs_isubF (pc := 49) C dX8_undo_49 (fun z49 hz491 hz492 => ?_)
      refine zVv1 (pc := 50) C dX8_undo_50 v_X8_325 (c_X7_unbakeK hX hZ23 hW (by omega) h7) (by decide) (by decide) ⟨Nat.zero_le _, Nat.zero_le _⟩ (Nat.le_of_ble_eq_true rfl) (fun G50 hp50 => ?_)
      obtain ⟨hz50, hq50⟩ := hp50
      have hZ50 := hq50
      refine zs_goto (tgt := 88) (pc := 53) C dX8_undo_53 (by decide) ?_
      refine zs_aload_n (pc := 88) C dX8_undo_88 rfl ?_
      refine zs_geti (r := 910) (pc := 89) C dX8_undo_89 w_X8_94 f_9_10 rfl (r_910 0) (fun v89 e89 l89 u89 => ?_)
      exact zs_iret (pc := 92) C hr hlk dX8_undo_92 (by
          have t9 : (0 : Int) = 0 := rfl
          first
          | (have t5 := zsm_at hz50 910 w 0 (by decide)
             exact ⟨by repeat (first | exact zsm_rf | assumption | refine zsm_C (by decide) ?_ | refine zsm_I (by decide) ?_ | refine zsm_J ?_ | refine zsm_c (by assumption) (by decide) ?_), ⟨fun z => absurd z (by omega), fun _ => ⟨by omega, (by unfold wUndo; rw [← y34, if_pos (by omega)]; exact hq50), by omega, by rw [hz50.1 2056 (by decide), hz23.1 2056 (by decide)]; rfl⟩⟩⟩)
          | (have t5 := zsm_at hz75 910 w 0 (by decide)
             exact ⟨by repeat (first | exact zsm_rf | assumption | refine zsm_C (by decide) ?_ | refine zsm_I (by decide) ?_ | refine zsm_J ?_ | refine zsm_c (by assumption) (by decide) ?_), ⟨fun z => absurd z (by omega), fun _ => ⟨by omega, (by unfold wUndo; rw [← y34, if_neg (by omega), if_pos (by omega)]; exact hq75), by omega, by rw [hz75.1 2056 (by decide), hz23.1 2056 (by decide)]; rfl⟩⟩⟩)
          | (have t5 := zsm_at hz85 910 w 0 (by decide)
             exact ⟨by repeat (first | exact zsm_rf | assumption | refine zsm_C (by decide) ?_ | refine zsm_I (by decide) ?_ | refine zsm_J ?_ | refine zsm_c (by assumption) (by decide) ?_), ⟨fun z => absurd z (by omega), fun _ => ⟨by omega, (by unfold wUndo; rw [← y34, if_neg (by omega), if_neg (by omega)]; exact hq85), by omega, by rw [hz85.1 2056 (by decide), hz23.1 2056 (by decide)]; rfl⟩⟩⟩))
  · skip
    refine zs_iconst (pc := 7) C dX8_undo_7 (by decide) ?_
    exact zs_iret (pc := 8) C hr hlk dX8_undo_8 ⟨by repeat (first | exact zsm_rf | assumption | refine zsm_C (by decide) ?_ | refine zsm_I (by decide) ?_ | refine zsm_J ?_ | refine zsm_c (by assumption) (by decide) ?_), ⟨fun _ => ⟨rfl, hZ, rfl, rfl⟩, fun z => absurd z (by omega)⟩⟩

set_option maxHeartbeats 4000000 in
set_option maxRecDepth 100000 in
theorem c_X8_keepK {l : Launch} {Γ : zΓ} {G : zH} {w t : Nat} {A W : aS}  (hX : zXs Γ) (hZ : QQ Γ (Γ.2.1 w 4) t A W G) (hI : G.2.2 903 w = t) (ha : AW Γ (Γ.2.1 w 5) (Γ.2.1 w 4))  : zMet l Γ yX8_keep cX8_keep 1 (some .int) 3 [zr 9 w] G (zpi (fun x G' => zsn [510, 2026, 2027, 2028, 2029, 2030, 2031, 2032, 2033, 2034, 2035, 2048, 2049, 2050, 2051, 2052, 2053, 809, 810, 811, 812, 813, 911] G G' ∧ (x = W 18 0 ∧ (∃ V : aS, QQ Γ (Γ.2.1 w 4) t A (V) G' ∧ wEx V W) ∧ (∃ U : aS, QQ Γ (Γ.2.1 w 5) t A U G' ∧ wCp U W) ∧ G'.1 911 w 0 = 1 ∧ (∀ r a9 : Nat, (r = 800 ∧ a9 = (Γ.2.1 w 5)) ∨ G'.2.2 r a9 = G.2.2 r a9)))) := by
  refine zMet_of RX8 hX (by decide) rfl (Nat.le_of_ble_eq_true rfl) ?_
  intro p e s m args below meth c C hr hlk
  show Z p l e (zrm 3) s m args below meth c Γ 1 0 0 (MQ below (zQc Γ (zpi (fun x G' => zsn [510, 2026, 2027, 2028, 2029, 2030, 2031, 2032, 2033, 2034, 2035, 2048, 2049, 2050, 2051, 2052, 2053, 809, 810, 811, 812, 813, 911] G G' ∧ (x = W 18 0 ∧ (∃ V : aS, QQ Γ (Γ.2.1 w 4) t A (V) G' ∧ wEx V W) ∧ (∃ U : aS, QQ Γ (Γ.2.1 w 5) t A U G' ∧ wCp U W) ∧ G'.1 911 w 0 = 1 ∧ (∀ r a9 : Nat, (r = 800 ∧ a9 = (Γ.2.1 w 5)) ∨ G'.2.2 r a9 = G.2.2 r a9))))) args s 0 0 (zA Γ)) 0 [some (zr 9 w)] [] G
  refine zs_aload_n (pc := 0) C dX8_keep_0 rfl ?_
  refine zs_getf (pc := 1) C dX8_keep_1 w_X8_38 f_9_5 (by decide) ?_
  refine zs_aload_n (pc := 4) C dX8_keep_4 rfl ?_
  refine zs_getf (pc := 5) C dX8_keep_5 w_X8_34 f_9_4 (by decide) ?_
  refine zVv1 (pc := 8) C dX8_keep_8 v_X8_288 (c_X7_copyFromK (w := (Γ.2.1 w 5)) (v := (Γ.2.1 w 4)) (t := t) hX (QQ_t hZ)) (by decide) (by decide) ⟨Nat.zero_le _, Nat.zero_le _⟩ (Nat.le_of_ble_eq_true rfl) (fun G8 hp8 => ?_)
  obtain ⟨hz8, hq8⟩ := hp8
  obtain ⟨r8, o8, c8⟩ := hq8
  obtain ⟨W0, hW0⟩ := QW_is (Γ := Γ) (w := (Γ.2.1 w 5)) (G := G)
  obtain ⟨U, hU, hUc, hUg, hU7⟩ := QQ_cp hz8 (by decide +kernel) hW0 hZ (by rw [r8, zuP_3, if_pos ⟨rfl, rfl⟩]) o8 c8
  obtain ⟨hO1, hO2⟩ := QQ_ot ha hz8 (by decide +kernel) o8 (by rw [r8, zuP_3, if_neg (fun q => ha.1 q.2.symm)]) hZ
  refine zs_aload_n (pc := 11) C dX8_keep_11 rfl ?_
  refine zs_iconst (pc := 12) C dX8_keep_12 (by decide) ?_
  refine zs_putz (r := 911) (pc := 13) C dX8_keep_13 w_X8_90 f_9_11 rfl (r_911 0) (by omega) (by omega) ?_
  refine zs_aload_n (pc := 16) C dX8_keep_16 rfl ?_
  refine zs_getf (pc := 17) C dX8_keep_17 w_X8_34 f_9_4 (by decide) ?_
  refine zs_geti (r := 809) (pc := 20) C dX8_keep_20 w_X8_221 f_8_9 rfl (r_809 0) (fun v20 e20 l20 u20 => ?_)
  try simp only [zuI_1, zuI_2, zuJ_1, zuJ_2, zuJ_3, zuP_1, zuP_2, zuP_3, zuC_1, zuC_2, reduceIte, Nat.reduceEqDiff, false_and, and_false, true_and, and_true, and_self, or_true, true_or, or_false, false_or] at e20
  try simp only [QQ_809 hZ] at e20
  try subst v20
  exact zs_iret (pc := 23) C hr hlk dX8_keep_23 (by
      have y20 : G8.1 809 (Γ.2.1 w 4) 0 = W 18 0 := by rw [QQ_809 hO1]; exact hO2 18 0 (by decide)
      exact ⟨by repeat (first | exact zsn_rf | assumption | refine zsn_C (by decide) ?_ | refine zsn_I (by decide) ?_ | refine zsn_J ?_ | refine zsn_P ?_ | refine zsn_m (by assumption) (by decide) ?_ | refine zsn_c (by assumption) (by decide) ?_), ⟨(by first | exact y20 | (simp only [zuI_1, zuI_2, zuJ_1, zuJ_2, zuJ_3, zuP_1, zuP_2, zuP_3, zuC_1, zuC_2, reduceIte, Nat.reduceEqDiff, false_and, and_false, true_and, and_true, and_self, or_true, true_or, or_false, false_or]; exact y20)), ⟨_, QQ_911 hO1, hO2⟩, ⟨U, QQ_911 hU, hUc⟩, by simp only [zuI_1, zuI_2, zuJ_1, zuJ_2, zuJ_3, zuP_1, zuP_2, zuP_3, zuC_1, zuC_2, reduceIte, Nat.reduceEqDiff, false_and, and_false, true_and, and_true, and_self, or_true, true_or, or_false, false_or], fun r a9 => (by by_cases z : r = 800 ∧ a9 = (Γ.2.1 w 5); exact Or.inl z; exact Or.inr (by show G8.2.2 r a9 = _; rw [r8, zuP_3, if_neg z]))⟩⟩)

set_option maxHeartbeats 4000000 in
set_option maxRecDepth 100000 in
theorem c_X8_backK {l : Launch} {Γ : zΓ} {G : zH} {w t : Nat} {A W : aS} {V : aS}  (hX : zXs Γ) (hZ : QQ Γ (Γ.2.1 w 4) t A W G) (hI : G.2.2 903 w = t) (ha : AW Γ (Γ.2.1 w 4) (Γ.2.1 w 5)) (hV : G.1 911 w 0 ≠ 0 → QQ Γ (Γ.2.1 w 5) t A V G)  : zMet l Γ yX8_back cX8_back 1 (some .int) 3 [zr 9 w] G (zpi (fun x G' => zsn [510, 2026, 2027, 2028, 2029, 2030, 2031, 2032, 2033, 2034, 2035, 2048, 2049, 2050, 2051, 2052, 2053, 809, 810, 811, 812, 813, 910, 2020] G G' ∧ ((G.1 911 w 0 = 0 → x = -1 ∧ QQ Γ (Γ.2.1 w 4) t A (W) G' ∧ G'.1 910 w 0 = G.1 910 w 0 ∧ (G'.1 2056 (Γ.2.1 w 9)) = (G.1 2056 (Γ.2.1 w 9)) ∧ G' = G) ∧ (G.1 911 w 0 ≠ 0 → x = V 18 0 ∧ (∃ U : aS, QQ Γ (Γ.2.1 w 4) t A (U) G' ∧ wCp U V ∧ ∀ j : Nat, U 17 j = W 17 j) ∧ (∃ V' : aS, QQ Γ (Γ.2.1 w 5) t A V' G' ∧ wEx V' V) ∧ G'.1 910 w 0 = 0 ∧ (∀ r a9 : Nat, (r = 800 ∧ a9 = (Γ.2.1 w 4)) ∨ G'.2.2 r a9 = G.2.2 r a9))))) := by
  refine zMet_of RX8 hX (by decide) rfl (Nat.le_of_ble_eq_true rfl) ?_
  intro p e s m args below meth c C hr hlk
  show Z p l e (zrm 3) s m args below meth c Γ 1 0 0 (MQ below (zQc Γ (zpi (fun x G' => zsn [510, 2026, 2027, 2028, 2029, 2030, 2031, 2032, 2033, 2034, 2035, 2048, 2049, 2050, 2051, 2052, 2053, 809, 810, 811, 812, 813, 910, 2020] G G' ∧ ((G.1 911 w 0 = 0 → x = -1 ∧ QQ Γ (Γ.2.1 w 4) t A (W) G' ∧ G'.1 910 w 0 = G.1 910 w 0 ∧ (G'.1 2056 (Γ.2.1 w 9)) = (G.1 2056 (Γ.2.1 w 9)) ∧ G' = G) ∧ (G.1 911 w 0 ≠ 0 → x = V 18 0 ∧ (∃ U : aS, QQ Γ (Γ.2.1 w 4) t A (U) G' ∧ wCp U V ∧ ∀ j : Nat, U 17 j = W 17 j) ∧ (∃ V' : aS, QQ Γ (Γ.2.1 w 5) t A V' G' ∧ wEx V' V) ∧ G'.1 910 w 0 = 0 ∧ (∀ r a9 : Nat, (r = 800 ∧ a9 = (Γ.2.1 w 4)) ∨ G'.2.2 r a9 = G.2.2 r a9)))))) args s 0 0 (zA Γ)) 0 [some (zr 9 w)] [] G
  refine zs_aload_n (pc := 0) C dX8_back_0 rfl ?_
  refine zs_getz (r := 911) (pc := 1) C dX8_back_1 w_X8_90 f_9_11 rfl (r_911 0) (fun v1 e1 l1 u1 => ?_)
  refine zs_if_ne (tgt := 9) (pc := 4) C dX8_back_4 (by decide) (fun h4 => ?_) (fun h4 => ?_)
  · skip
    have h911 : G.1 911 w 0 ≠ 0 := by omega
    have hV9 := hV h911
    refine zs_aload_n (pc := 9) C dX8_back_9 rfl ?_
    refine zs_getf (pc := 10) C dX8_back_10 w_X8_34 f_9_4 (by decide) ?_
    refine zs_aload_n (pc := 13) C dX8_back_13 rfl ?_
    refine zs_getf (pc := 14) C dX8_back_14 w_X8_38 f_9_5 (by decide) ?_
    refine zVv1 (pc := 17) C dX8_back_17 v_X8_288 (c_X7_copyFromK (w := (Γ.2.1 w 4)) (v := (Γ.2.1 w 5)) (t := t) hX (QQ_t hV9)) (by decide) (by decide) ⟨Nat.zero_le _, Nat.zero_le _⟩ (Nat.le_of_ble_eq_true rfl) (fun G17 hp17 => ?_)
    obtain ⟨hz17, hq17⟩ := hp17
    obtain ⟨r17, o17, c17⟩ := hq17
    obtain ⟨U, hU, hUc, hUg, hU7⟩ := QQ_cp hz17 (by decide +kernel) hZ.1 hV9 (by rw [r17, zuP_3, if_pos ⟨rfl, rfl⟩]) o17 c17
    obtain ⟨hO1, hO2⟩ := QQ_ot ha hz17 (by decide +kernel) o17 (by rw [r17, zuP_3, if_neg (fun q => ha.1 q.2.symm)]) hV9
    refine zs_aload_n (pc := 20) C dX8_back_20 rfl ?_
    refine zs_iconst (pc := 21) C dX8_back_21 (by decide) ?_
    refine zs_puti (r := 910) (pc := 22) C dX8_back_22 w_X8_94 f_9_10 rfl (r_910 0) (by omega) ?_
    refine zs_aload_n (pc := 25) C dX8_back_25 rfl ?_
    refine zs_getf (pc := 26) C dX8_back_26 w_X8_49 f_9_7 (by decide) ?_
    refine zVv0 (pc := 29) C dX8_back_29 v_X8_97 (c_X2_forget hX ) (by decide) (by decide) ⟨Nat.zero_le _, Nat.zero_le _⟩ (Nat.le_of_ble_eq_true rfl) (fun G29 hp29 => ?_)
    obtain ⟨hz29, hq29⟩ := hp29
    try simp only [zuI_1, zuI_2, zuJ_1, zuJ_2, zuJ_3, zuP_1, zuP_2, zuP_3, zuC_1, zuC_2, reduceIte, Nat.reduceEqDiff, false_and, and_false, true_and, and_true, and_self, or_true, true_or, or_false, false_or] at hq29
    have hU29 := QQ_sm hz29 (by decide) (by decide +kernel) (QQ_910 hU)
    have hO29 := QQ_sm hz29 (by decide) (by decide +kernel) (QQ_910 hO1)
    have t910 := zsm_at hz29 910 w 0 (by decide)
    try simp only [zuI_1, zuI_2, zuJ_1, zuJ_2, zuJ_3, zuP_1, zuP_2, zuP_3, zuC_1, zuC_2, reduceIte, Nat.reduceEqDiff, false_and, and_false, true_and, and_true, and_self, or_true, true_or, or_false, false_or] at t910
    refine zs_aload_n (pc := 32) C dX8_back_32 rfl ?_
    refine zs_getf (pc := 33) C dX8_back_33 w_X8_34 f_9_4 (by decide) ?_
    refine zs_geti (r := 809) (pc := 36) C dX8_back_36 w_X8_221 f_8_9 rfl (r_809 0) (fun v36 e36 l36 u36 => ?_)
    try simp only [QQ_809 hZ] at e36
    try subst v36
    exact zs_iret (pc := 39) C hr hlk dX8_back_39 (by
        have y36 : G29.1 809 (Γ.2.1 w 4) 0 = V 18 0 := by rw [QQ_809 hU29]; exact hUc.2.2.2.2 18 (by decide) (by decide)
        exact ⟨by repeat (first | exact zsn_rf | assumption | refine zsn_C (by decide) ?_ | refine zsn_I (by decide) ?_ | refine zsn_J ?_ | refine zsn_P ?_ | refine zsn_m (by assumption) (by decide) ?_ | refine zsn_c (by assumption) (by decide) ?_), ⟨fun z => absurd z h911, fun _ => ⟨(by first | exact y36 | (simp only [zuI_1, zuI_2, zuJ_1, zuJ_2, zuJ_3, zuP_1, zuP_2, zuP_3, zuC_1, zuC_2, reduceIte, Nat.reduceEqDiff, false_and, and_false, true_and, and_true, and_self, or_true, true_or, or_false, false_or]; exact y36)), ⟨U, hU29, hUc, hU7⟩, ⟨_, hO29, hO2⟩, t910, fun r a9 => (by by_cases z : r = 800 ∧ a9 = (Γ.2.1 w 4); exact Or.inl z; exact Or.inr (by rw [hz29.2]; show G17.2.2 r a9 = _; rw [r17, zuP_3, if_neg z]))⟩⟩⟩)
  · skip
    refine zs_iconst (pc := 7) C dX8_back_7 (by decide) ?_
    exact zs_iret (pc := 8) C hr hlk dX8_back_8 ⟨by repeat (first | exact zsn_rf | assumption | refine zsn_C (by decide) ?_ | refine zsn_I (by decide) ?_ | refine zsn_J ?_ | refine zsn_P ?_ | refine zsn_m (by assumption) (by decide) ?_ | refine zsn_c (by assumption) (by decide) ?_), ⟨fun _ => ⟨rfl, hZ, rfl, rfl, rfl⟩, fun z => absurd (by omega) z⟩⟩
